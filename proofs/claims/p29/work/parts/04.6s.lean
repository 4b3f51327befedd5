def CL (cp cr : Nat → Int32) (m : Int32) (t g : Nat → Int32) (b o : Int32) : Prop := (mnF g b o).toInt ≤ 7 ∧ (∀ k : Nat, (k : Int) < m.toInt → ∃ f : Nat → Int32, dr f g b o ∧ cp k = psG f o (mnF g b o) (rfF (t b.toNatClampNeg) (mnF g b o)) (mnF g b o).toNatClampNeg ∧ cr k = pkG f (mnF g b o).toNatClampNeg) ∧ ∀ j k : Nat, j < k → (k : Int) < m.toInt → ¬ cp j = cp k
theorem CL_0 (cp cr t g : Nat → Int32) (b o : Int32) (h : (mnF g b o).toInt ≤ 7) : CL cp cr 0 t g b o := by
  have z : (0 : Int32).toInt = 0 := by decide
  exact ⟨h, fun k hk => by omega, fun j k hjk hk => by omega⟩
/-- the ranks of a row, filled up to seven -/
def rho (k n : Nat) (f : Nat → Int32) (i : Nat) : Nat := if i < n then rkN k (f i).toNatClampNeg else i
theorem inb_bit {k a : Nat} (hk : k < 512) (ha : a < 9) (h : ¬ inb (nI k) (nI a)) : k / 2 ^ a % 2 = 0 := by
  rw [inb_nI (by omega)] at h
  have e : (nI k).toBitVec.getLsbD a = k.testBit a := by rw [← BitVec.testBit_toNat, pk_tn (by omega)]
  rw [e] at h
  rw [Nat.testBit_eq_decide_div_mod_eq] at h
  have := of_decide_eq_false (Bool.eq_false_iff.mpr h)
  omega
theorem dr_rho {f g : Nat → Int32} {b o : Int32} {w k m : Nat} (hd : dr f g b o) (hw : w ≤ 9) (hg : g b.toNatClampNeg = nI w) (ho : o = nI k) (hk : k < 2 ^ w) (hm : m = w - popG k 9) (hn : mnF g b o = nI m) (h7 : m ≤ 7) : pm7 (rho k m f) ∧ ∀ i, i < m → rkG o (f i).toNatClampNeg = nI (rho k m f i) := by
  have q : 2 ^ w ≤ 2 ^ 9 := Nat.pow_le_pow_right (by decide) hw
  obtain ⟨a, d, c⟩ := hd
  rw [hn] at a d c
  have mi : ∀ i : Nat, i < m → (i : Int) < (nI m).toInt := fun i hi => by rw [nI_toInt (by omega)]; omega
  have at_ : ∀ i, i < m → ∃ x : Nat, f i = nI x ∧ x < 9 ∧ x < w ∧ k / 2 ^ x % 2 = 0 := by
    intro i hi
    obtain ⟨x, h1, h2, _, h3⟩ := rg_nat (a i (mi i hi)) (by decide)
    obtain ⟨c1, c2⟩ := c i (mi i hi)
    rw [h2, hg, nI_toInt h1, nI_toInt (by omega)] at c2
    rw [h2, ho] at c1
    exact ⟨x, h2, by omega, by omega, inb_bit (by omega) (by omega) c1⟩
  have lt : ∀ i, i < m → rho k m f i < m := by
    intro i hi
    obtain ⟨x, e, x9, xw, xb⟩ := at_ i hi
    unfold rho
    rw [if_pos hi, e, nI_clamp (by omega), hm]
    exact rk_lt w (by omega) k hk x xw xb
  have hi_ : ∀ i, ¬ i < m → rho k m f i = i := fun i h => by unfold rho; rw [if_neg h]
  refine ⟨⟨fun i hi => ?_, fun i j hij hj => ?_⟩, fun i hi => ?_⟩
  · by_cases z : i < m
    · have := lt i z
      omega
    · rw [hi_ i z]
      exact hi
  · by_cases z : j < m
    · obtain ⟨x, e, x9, xw, xb⟩ := at_ i (by omega)
      obtain ⟨y, e2, y9, yw, yb⟩ := at_ j z
      have ne := d i j hij (mi j z)
      rw [e, e2] at ne
      have xy : x ≠ y := fun h => ne (by rw [h])
      unfold rho
      rw [if_pos (by omega), if_pos z, e, e2, nI_clamp (by omega), nI_clamp (by omega)]
      rcases Nat.lt_or_gt_of_ne xy with h | h
      · have := rk_mono k (by omega) y y9 x h xb
        omega
      · have := rk_mono k (by omega) x x9 y h yb
        omega
    · rw [hi_ j z]
      by_cases z2 : i < m
      · have := lt i z2
        omega
      · rw [hi_ i z2]
        omega
  · obtain ⟨x, e, x9, xw, xb⟩ := at_ i hi
    unfold rho
    rw [if_pos hi, ho, rk_all k (by omega) _ (by rw [e, nI_clamp (by omega)]; omega)]
/-- rows of one number have one set -/
theorem ps_code {f f' g : Nat → Int32} {b o r : Int32} {w k m : Nat} (hd : dr f g b o) (hd' : dr f' g b o) (hw : w ≤ 9) (hg : g b.toNatClampNeg = nI w) (ho : o = nI k) (hk : k < 2 ^ w) (hm : m = w - popG k 9) (hn : mnF g b o = nI m) (h7 : m ≤ 7) (e : cd7 (rho k m f) = cd7 (rho k m f')) : psG f o (nI m) r m = psG f' o (nI m) r m := by
  obtain ⟨p1, q1⟩ := dr_rho hd hw hg ho hk hm hn h7
  obtain ⟨p2, q2⟩ := dr_rho hd' hw hg ho hk hm hn h7
  rw [psG_R (by omega) q1 m (Nat.le_refl _), psG_R (by omega) q2 m (Nat.le_refl _)]
  rcases cd7_eq p1 p2 e with h | h
  · exact psR_congr (fun i hi => h i (by omega)) m (Nat.le_refl _)
  · by_cases z : m = 7
    · subst z
      rw [psR_congr (q' := fun i => rho k 7 f' (6 - i)) (fun i hi => h i hi) 7 (Nat.le_refl _)]
      exact psR_rev _ r
    · exfalso
      have h0 := h 0 (by omega)
      have six : rho k m f' 6 = 6 := by unfold rho; rw [if_neg (by omega)]
      rw [show 6 - 0 = 6 by omega, six] at h0
      by_cases z2 : 0 < m
      · have : rho k m f 0 < m := by
          obtain ⟨pa, pb⟩ := p1
          -- ranks lie below m
          have l : ∀ i, i < m → rho k m f i < m := by
            intro i hi
            rcases Nat.lt_or_ge (rho k m f i) m with u | u
            · exact u
            · exfalso
              have u7 := pa i (by omega)
              have v : rho k m f (rho k m f i) = rho k m f i := by
                show (if rho k m f i < m then _ else rho k m f i) = rho k m f i
                rw [if_neg (by omega)]
              exact pb i (rho k m f i) (by omega) u7 v.symm
          exact l 0 z2
        omega
      · have : rho k m f 0 = 0 := by unfold rho; rw [if_neg z2]
        omega
theorem CL_room {cp cr t g f : Nat → Int32} {b o m n k s r : Int32} (hw : ow g b o) (hc : CL cp cr m t g b o) (hd : dr f g b o) (hm : rg 0 2520 m) (hk : m.toInt ≤ k.toInt) (hs : nt cp k s) (hn : n = mnF g b o) (hr : r = rfF (t b.toNatClampNeg) (mnF g b o)) (hp : s = psG f o n r n.toNatClampNeg) : rg 0 2519 m := by
  refine ⟨hm.1, ?_⟩
  rcases Int.lt_or_le 2519 m.toInt with z | z
  · exfalso
    have m2 := hm.2
    obtain ⟨c1, c2, c3⟩ := hc
    obtain ⟨w, q, v, w9, e1, e2, e3, e4, _, e5⟩ := ow_mn hw
    rw [e5, nI_toInt (by omega)] at c1
    have v7 : v ≤ 7 := by omega
    have ex : ∀ i : Nat, ∃ f' : Nat → Int32, i < 2520 → dr f' g b o ∧ cp i = psG f' o (mnF g b o) (rfF (t b.toNatClampNeg) (mnF g b o)) (mnF g b o).toNatClampNeg := by
      intro i
      by_cases h : i < 2520
      · obtain ⟨f', a1, a2, _⟩ := c2 i (by omega)
        exact ⟨f', fun _ => ⟨a1, a2⟩⟩
      · exact ⟨f, fun h' => absurd h' h⟩
    obtain ⟨F, hF⟩ := Classical.axiomOfChoice ex
    have G : ∀ i, i ≤ 2520 → ∃ f' : Nat → Int32, (if i < 2520 then F i else f) = f' ∧ dr f' g b o := by
      intro i hi
      by_cases h : i < 2520
      · exact ⟨F i, by rw [if_pos h], (hF i h).1⟩
      · exact ⟨f, by rw [if_neg h], hd⟩
    refine php 2520 (fun i => cd7 (rho q v (if i < 2520 then F i else f))) ?_ ?_
    · intro i hi
      obtain ⟨f', g1, g2⟩ := G i hi
      show cd7 (rho q v (if i < 2520 then F i else f)) < 2520
      rw [g1]
      exact (cd7_ok (dr_rho g2 w9 e1 e2 e3 e4 e5 v7).1).1
    · intro i j hij hj
      show cd7 (rho q v (if i < 2520 then F i else f)) ≠ cd7 (rho q v (if j < 2520 then F j else f))
      intro e
      have hi : i < 2520 := by omega
      rw [if_pos hi] at e
      obtain ⟨i1, i2⟩ := hF i hi
      by_cases h : j < 2520
      · rw [if_pos h] at e
        obtain ⟨j1, j2⟩ := hF j h
        apply c3 i j hij (by omega)
        rw [i2, j2, e5, nI_clamp (by omega)]
        exact ps_code i1 j1 w9 e1 e2 e3 e4 e5 v7 e
      · rw [if_neg h] at e
        apply hs i (by omega)
        rw [i2, hp, hr, hn, e5, nI_clamp (by omega)]
        exact ps_code i1 hd w9 e1 e2 e3 e4 e5 v7 e
  · exact z
theorem CL_push {cp cr cp' cr' t g f : Nat → Int32} {b o m m' n k s r pk : Int32} (hc : CL cp cr m t g b o) (hd : dr f g b o) (hm : rg 0 2519 m) (hk : m.toInt ≤ k.toInt) (hs : nt cp k s) (hn : n = mnF g b o) (hr : r = rfF (t b.toNatClampNeg) (mnF g b o)) (hp : s = psG f o n r n.toNatClampNeg) (hq : pk = pkG f n.toNatClampNeg) (e1 : cp' = upd cp m.toNatClampNeg s) (e2 : cr' = upd cr m.toNatClampNeg pk) (hm' : m'.toInt = m.toInt + 1) : CL cp' cr' m' t g b o := by
  obtain ⟨c1, c2, c3⟩ := hc
  have cm := cl_of hm (by decide)
  refine ⟨c1, fun i hi => ?_, fun i j hij hj => ?_⟩
  · by_cases z : i = m.toNatClampNeg
    · refine ⟨f, hd, ?_, ?_⟩
      · rw [z, e1, pk_us, hp, hr, hn]
      · rw [z, e2, pk_us, hq, hn]
    · obtain ⟨f', a1, a2, a3⟩ := c2 i (by omega)
      exact ⟨f', a1, by rw [e1, pk_un z]; exact a2, by rw [e2, pk_un z]; exact a3⟩
  · rw [e1, pk_un (show i ≠ m.toNatClampNeg by omega)]
    by_cases z : j = m.toNatClampNeg
    · rw [z, pk_us]
      exact hs i (by omega)
    · rw [pk_un z]
      exact c3 i j hij (by omega)
theorem nt_s2 {f : Nat → Int32} {k k' h x : Int32} {a b : Int} (hn : nt f k h) (hx : x = f k.toNatClampNeg) (hne : ¬ x = h) (hk : rg a b k) (h0 : 0 ≤ a) (hk' : k'.toInt = k.toInt + 1) : nt f k' h := by
  intro i hi
  by_cases e : (i : Int) < k.toInt
  · exact hn i e
  · have c := cl_of hk h0
    have : i = k.toNatClampNeg := by omega
    rw [this, ← hx]
    exact hne
theorem cw_e {f : Nat → Int32} {o n r s k p : Int32} (h : cw f o n r s k p) (h1 : p.toInt ≤ n.toInt) (h2 : n.toInt ≤ p.toInt) : s = psG f o n r n.toNatClampNeg ∧ k = pkG f n.toNatClampNeg := by
  have : p = n := (fa_eq _ _).mpr (by omega)
  rw [this] at h
  exact h
/-! a packed row -/
def pkN (a : Nat → Nat) : Nat → Nat
  | 0 => 0
  | k + 1 => pkN a k + a k * 16 ^ k
theorem pkN_lt {a : Nat → Nat} : ∀ k, (∀ i, i < k → a i ≤ 8) → pkN a k < 16 ^ k := by
  intro k
  induction k with
  | zero => intro _; exact Nat.zero_lt_one
  | succ k ih =>
    intro h
    have i1 := ih (fun i hi => h i (by omega))
    have i2 := h k (by omega)
    have i3 : a k * 16 ^ k ≤ 8 * 16 ^ k := Nat.mul_le_mul_right _ i2
    show pkN a k + a k * 16 ^ k < 16 ^ (k + 1)
    rw [Nat.pow_succ]
    omega
theorem pkN_dig {a : Nat → Nat} : ∀ k, (∀ i, i < k → a i ≤ 8) → ∀ p, p < k → pkN a k / 16 ^ p % 16 = a p := by
  intro k
  induction k with
  | zero => intro _ p hp; omega
  | succ k ih =>
    intro h p hp
    have i1 := pkN_lt (a := a) k (fun i hi => h i (by omega))
    show (pkN a k + a k * 16 ^ k) / 16 ^ p % 16 = a p
    by_cases z : p = k
    · subst z
      rw [Nat.add_mul_div_right _ _ (Nat.pow_pos (by decide)), Nat.div_eq_of_lt i1, Nat.zero_add]
      have := h p (by omega)
      omega
    · have e : a k * 16 ^ k = (a k * 16 ^ (k - p - 1) * 16) * 16 ^ p := by
        rw [Nat.mul_assoc, Nat.mul_assoc, ← Nat.pow_succ', ← Nat.pow_add]
        congr 2
        omega
      rw [e, Nat.add_mul_div_right _ _ (Nat.pow_pos (by decide)), Nat.add_mul_mod_self_right]
      exact ih (fun i hi => h i (by omega)) p (by omega)
theorem m4 : ∀ k, k < 9 → (4 : Int32) * nI k = nI (4 * k) := by decide +kernel
theorem pk_N {f : Nat → Int32} {a : Nat → Nat} : ∀ k, k ≤ 7 → (∀ i, i < k → f i = nI (a i) ∧ a i ≤ 8) → pkG f k = nI (pkN a k) := by
  intro k
  induction k with
  | zero => intro _ _; rfl
  | succ k ih =>
    intro hk h
    have i1 := pkN_lt (a := a) k (fun i hi => (h i (by omega)).2)
    have i2 := pkN_lt (a := a) (k + 1) (fun i hi => (h i (by omega)).2)
    obtain ⟨f1, f2⟩ := h k (by omega)
    have q : 16 ^ (k + 1) ≤ 16 ^ 7 := Nat.pow_le_pow_right (by decide) hk
    have q7 : 16 ^ 7 = 268435456 := by decide
    have i3 : pkN a k + a k * 16 ^ k < 16 ^ (k + 1) := i2
    show pkG f k ||| (f k <<< ((4 * nI k) &&& 31)) = nI (pkN a k + a k * 16 ^ k)
    rw [ih (by omega) (fun i hi => h i (by omega)), f1, m4 k (by omega), shl4 (a k) (by omega) k (by omega)]
    refine rg_bv ?_ (by omega)
    rw [Int32.toBitVec_or, BitVec.toNat_or, pk_tn (by omega), pk_tn (by omega)]
    exact or_add i1
theorem sm4 : ∀ j, j < 8 → ((nI (4 * j) &&& 31).toBitVec.smod 32).toNat = 4 * j := by decide +kernel
theorem pk_at {f g : Nat → Int32} {b o p c x n : Int32} (hd : dr f g b o) (h7 : (mnF g b o).toInt ≤ 7) (hn : n = mnF g b o) (hp : rg 0 8 p) (hl : p.toInt < n.toInt) (hc : c = pkG f n.toNatClampNeg) (hx : x = (c >>> ((4 * p) &&& 31)) &&& 15) : x = f p.toNatClampNeg := by
  rw [← hn] at h7
  have n0 : rg 0 7 n := ⟨by have := hp.1; omega, h7⟩
  obtain ⟨m, m1, rfl, _, m7⟩ := rg_nat n0 (by decide)
  obtain ⟨j, j1, rfl, _, _⟩ := rg_nat hp (by decide)
  rw [nI_toInt m1, nI_toInt j1] at hl
  have r := hd.1
  rw [← hn] at r
  have fa : ∀ i, i < m → f i = nI (f i).toNatClampNeg ∧ (f i).toNatClampNeg ≤ 8 := by
    intro i hi
    obtain ⟨y, y1, y2, _, y3⟩ := rg_nat (r i (by rw [nI_toInt m1]; omega)) (by decide)
    rw [y2, nI_clamp y1]
    exact ⟨rfl, by omega⟩
  have e := pk_N (f := f) (a := fun i => (f i).toNatClampNeg) m (by omega) fa
  have lt := pkN_lt (a := fun i => (f i).toNatClampNeg) m (fun i hi => (fa i hi).2)
  have q : 16 ^ m ≤ 16 ^ 7 := Nat.pow_le_pow_right (by decide) (by omega)
  have q7 : 16 ^ 7 = 268435456 := by decide
  have dg := pkN_dig (a := fun i => (f i).toNatClampNeg) m (fun i hi => (fa i hi).2) j (by omega)
  rw [hx, hc, nI_clamp m1, nI_clamp j1, e, m4 j (by omega), pk_shrN (by omega) _ (4 * j) (sm4 j (by omega)), Nat.pow_mul, show 2 ^ 4 = 16 by decide]
  generalize pkN (fun i => (f i).toNatClampNeg) m = X at lt dg ⊢
  have l2 : X / 16 ^ j ≤ X := Nat.div_le_self _ _
  have a15 : nI (X / 16 ^ j) &&& 15 = nI (X / 16 ^ j % 16) := rg_bv (by
    rw [Int32.toBitVec_and, BitVec.toNat_and, pk_tn (by omega)]
    exact Nat.and_two_pow_sub_one_eq_mod _ 4) (by omega)
  rw [a15, dg]
  exact ((fa j (by omega)).1).symm
/-- what is laid out of a set's order -/
theorem CL_at {cp cr t g : Nat → Int32} {b o m k c p x n : Int32} (hc : CL cp cr m t g b o) (hk : rg 0 2519 k) (hl : k.toInt < m.toInt) (e : c = cr k.toNatClampNeg) (hn : n = mnF g b o) (hp : rg 0 8 p) (hpl : p.toInt < n.toInt) (hx : x = (c >>> ((4 * p) &&& 31)) &&& 15) : rg 0 8 x := by
  obtain ⟨c1, c2, _⟩ := hc
  have ck := cl_of hk (by decide)
  obtain ⟨f, a1, _, a3⟩ := c2 k.toNatClampNeg (by omega)
  rw [pk_at a1 c1 hn hp hpl (by rw [e, a3, ← hn]) hx]
  have r := a1.1
  rw [← hn] at r
  exact r8_at r hp (by decide) hpl
def lp (l cr : Nat → Int32) (k p : Int32) : Prop := ∀ i : Nat, (i : Int) < p.toInt → l i = (cr k.toNatClampNeg >>> ((4 * nI i) &&& 31)) &&& 15
theorem lp_0 (l cr : Nat → Int32) (k : Int32) : lp l cr k 0 := by
  intro i hi
  rw [(by decide : (0 : Int32).toInt = 0)] at hi
  omega
theorem lp_s {l l' cr : Nat → Int32} {k p p' c x : Int32} (h : lp l cr k p) (hp : rg 0 8 p) (e : c = cr k.toNatClampNeg) (hx : x = (c >>> ((4 * p) &&& 31)) &&& 15) (el : l' = upd l p.toNatClampNeg x) (hp' : p'.toInt = p.toInt + 1) : lp l' cr k p' := by
  obtain ⟨j, j1, rfl, _, _⟩ := rg_nat hp (by decide)
  rw [nI_toInt j1] at hp'
  rw [nI_clamp j1] at el
  intro i hi
  by_cases z : i = j
  · rw [z, el, pk_us, hx, e]
  · rw [el, pk_un z]
    exact h i (by rw [nI_toInt j1]; omega)
theorem lp_ds {l cp cr t g : Nat → Int32} {b o m k p n : Int32} (hw : ow g b o) (h : lp l cr k p) (hc : CL cp cr m t g b o) (hk : rg 0 2519 k) (hl : k.toInt < m.toInt) (hn : n = mnF g b o) (hp : n.toInt ≤ p.toInt) : ds l n := by
  have n9 := mn_rg hw hn
  have hc' := hc
  obtain ⟨c1, c2, _⟩ := hc
  have ck := cl_of hk (by decide)
  obtain ⟨f, a1, _, a3⟩ := c2 k.toNatClampNeg (by omega)
  have d := a1.2.1
  rw [← hn] at d
  have at_ : ∀ i : Nat, (i : Int) < n.toInt → l i = f i := by
    intro i hi
    have n2 := n9.2
    have hr : rg 0 8 (nI i) := rg_ofN (by omega) (by omega) (by omega)
    have := pk_at (x := l i) a1 c1 hn hr (by rw [nI_toInt (by omega)]; exact hi) (c := cr k.toNatClampNeg) (by rw [a3, ← hn]) (h i (by omega))
    rw [nI_clamp (by omega)] at this
    exact this
  intro i j hij hj
  rw [at_ i (by omega), at_ j hj]
  exact d i j hij hj
/-! families that share nothing -/
def CB3 (cp : Nat → Int32) (m : Int) (u : Int32) (j : Nat) : Prop := ∃ k : Nat, j < k ∧ (k : Int) < m ∧ cp k &&& u = 0
def CB2 (cp : Nat → Int32) (m more : Int) (u : Int32) (i : Nat) : Prop := ∃ j : Nat, i < j ∧ (j : Int) < m ∧ cp j &&& u = 0 ∧ (more = 2 ∨ CB3 cp m (u ||| cp j) j)
def CB1 (cp : Nat → Int32) (m more : Int) (u : Int32) (i : Nat) : Prop := cp i &&& u = 0 ∧ (more = 1 ∨ CB2 cp m more (u ||| cp i) i)
def CB (cp : Nat → Int32) (m more fr u : Int32) : Prop := more.toInt = 0 ∨ ∃ i : Nat, fr.toInt ≤ (i : Int) ∧ (i : Int) < m.toInt ∧ CB1 cp m.toInt more.toInt u i
def n1 (cp : Nat → Int32) (m more fr u i : Int32) : Prop := ∀ x : Nat, fr.toInt ≤ (x : Int) → (x : Int) < i.toInt → ¬ CB1 cp m.toInt more.toInt u x
def n2 (cp : Nat → Int32) (m more v i j : Int32) : Prop := ∀ x : Nat, i.toInt < (x : Int) → (x : Int) < j.toInt → ¬ (cp x &&& v = 0 ∧ (more.toInt = 2 ∨ CB3 cp m.toInt (v ||| cp x) x))
def n3 (cp : Nat → Int32) (w j k : Int32) : Prop := ∀ x : Nat, j.toInt < (x : Int) → (x : Int) < k.toInt → ¬ cp x &&& w = 0
theorem n1_0 {cp : Nat → Int32} {m more fr u : Int32} : n1 cp m more fr u fr := fun x h1 h2 => by omega
theorem n2_0 {cp : Nat → Int32} {m more v i j : Int32} (h : j.toInt = i.toInt + 1) : n2 cp m more v i j := fun x h1 h2 => by omega
theorem n3_0 {cp : Nat → Int32} {w j k : Int32} (h : k.toInt = j.toInt + 1) : n3 cp w j k := fun x h1 h2 => by omega
theorem n1_s {cp : Nat → Int32} {m more fr u i i' : Int32} (h : n1 cp m more fr u i) (hi : rg 0 2520 i) (hi' : i'.toInt = i.toInt + 1) (hn : ¬ CB1 cp m.toInt more.toInt u i.toNatClampNeg) : n1 cp m more fr u i' := by
  intro x h1 h2
  have c := cl_of hi (by decide)
  by_cases z : (x : Int) < i.toInt
  · exact h x h1 z
  · have : x = i.toNatClampNeg := by omega
    rw [this]
    exact hn
theorem n2_s {cp : Nat → Int32} {m more v i j j' : Int32} (h : n2 cp m more v i j) (hj : rg 0 2520 j) (hj' : j'.toInt = j.toInt + 1) (hn : ¬ (cp j.toNatClampNeg &&& v = 0 ∧ (more.toInt = 2 ∨ CB3 cp m.toInt (v ||| cp j.toNatClampNeg) j.toNatClampNeg))) : n2 cp m more v i j' := by
  intro x h1 h2
  have c := cl_of hj (by decide)
  by_cases z : (x : Int) < j.toInt
  · exact h x h1 z
  · have : x = j.toNatClampNeg := by omega
    rw [this]
    exact hn
theorem n3_s {cp : Nat → Int32} {w j k k' : Int32} (h : n3 cp w j k) (hk : rg 0 2520 k) (hk' : k'.toInt = k.toInt + 1) (hn : ¬ cp k.toNatClampNeg &&& w = 0) : n3 cp w j k' := by
  intro x h1 h2
  have c := cl_of hk (by decide)
  by_cases z : (x : Int) < k.toInt
  · exact h x h1 z
  · have : x = k.toNatClampNeg := by omega
    rw [this]
    exact hn
theorem n3_e {cp : Nat → Int32} {m w j k : Int32} (h : n3 cp w j k) (hj : rg 0 2520 j) (hm : m.toInt ≤ k.toInt) : ¬ CB3 cp m.toInt w j.toNatClampNeg := by
  rintro ⟨x, h1, h2, h3⟩
  have c := cl_of hj (by decide)
  exact h x (by omega) (by omega) h3
theorem n2_e {cp : Nat → Int32} {m more v i j : Int32} (h : n2 cp m more v i j) (hi : rg 0 2520 i) (hm : m.toInt ≤ j.toInt) : ¬ CB2 cp m.toInt more.toInt v i.toNatClampNeg := by
  rintro ⟨x, h1, h2, h3, h4⟩
  have c := cl_of hi (by decide)
  exact h x (by omega) (by omega) ⟨h3, h4⟩
theorem CB_n {cp : Nat → Int32} {m more fr u i : Int32} (h : n1 cp m more fr u i) (h0 : ¬ more.toInt = 0) (hm : m.toInt ≤ i.toInt) : ¬ CB cp m more fr u := by
  rintro (h1 | ⟨x, h1, h2, h3⟩)
  · exact h0 h1
  · exact h x h1 (by omega) h3
theorem CB_y {cp : Nat → Int32} {m more fr u i : Int32} (hi : rg 0 2520 i) (h1 : fr.toInt ≤ i.toInt) (h2 : i.toInt < m.toInt) (h : CB1 cp m.toInt more.toInt u i.toNatClampNeg) : CB cp m more fr u := by
  have c := cl_of hi (by decide)
  exact Or.inr ⟨i.toNatClampNeg, by omega, by omega, h⟩
def fi (cp : Nat → Int32) (m most first : Int32) : Prop := ∃ i : Nat, first.toInt ≤ (i : Int) ∧ (i : Int) < m.toInt ∧ ∀ w f u : Int32, w.toInt = most.toInt - 1 → f.toInt = (i : Int) + 1 → u = cp i → CB cp m w f u
theorem z_or (x : Int32) : (0 : Int32) ||| x = x := by
  apply Int32.toBitVec_inj.mp
  rw [Int32.toBitVec_or]
  show 0#32 ||| _ = _
  exact BitVec.zero_or
theorem z_and (x : Int32) : x &&& (0 : Int32) = 0 := by
  apply Int32.toBitVec_inj.mp
  rw [Int32.toBitVec_and]
  show _ &&& 0#32 = 0#32
  exact BitVec.and_zero
theorem fi_0 {cp : Nat → Int32} {m most : Int32} (h : CB cp m most 0 0) (h1 : rg 1 3 most) : fi cp m most 0 := by
  rcases h with h | ⟨i, _, i2, i3, i4⟩
  · have := h1.1
    omega
  · refine ⟨i, by rw [(by decide : (0 : Int32).toInt = 0)]; omega, i2, fun w f u hw hf hu => ?_⟩
    by_cases z1 : most.toInt = 1
    · exact Or.inl (by omega)
    · rcases i4 with i4 | ⟨j, j1, j2, j3, j4⟩
      · exact absurd i4 z1
      · rw [z_or] at j3 j4
        refine Or.inr ⟨j, by omega, j2, by rw [hu]; exact j3, ?_⟩
        by_cases z : most.toInt = 2
        · exact Or.inl (by omega)
        · rcases j4 with j4 | ⟨k, k1, k2, k3⟩
          · exact absurd j4 z
          · have q1 := h1.1
            have q2 := h1.2
            exact Or.inr ⟨k, k1, k2, by rw [hu]; exact k3, Or.inl (by omega)⟩
theorem fi_s {cp : Nat → Int32} {m most first first' w f u : Int32} (h : fi cp m most first) (hf : rg 0 2519 first) (hw : w.toInt = most.toInt - 1) (hf1 : f.toInt = first.toInt + 1) (hu : u = cp first.toNatClampNeg) (hn : ¬ CB cp m w f u) (hf' : first'.toInt = first.toInt + 1) : fi cp m most first' := by
  obtain ⟨i, i1, i2, i3⟩ := h
  have c := cl_of hf (by decide)
  refine ⟨i, ?_, i2, i3⟩
  rcases Int.lt_or_le first.toInt (i : Int) with z | z
  · omega
  · exfalso
    have e : i = first.toNatClampNeg := by omega
    exact hn (i3 w f u hw (by omega) (by rw [hu, e]))
theorem fi_lt {cp : Nat → Int32} {m most first : Int32} (h : fi cp m most first) (hm : rg 0 2520 m) (hf : rg 0 2520 first) : rg 0 2519 first ∧ first.toInt < m.toInt := by
  obtain ⟨i, i1, i2, _⟩ := h
  have m2 := hm.2
  have f1 := hf.1
  exact ⟨⟨by omega, by omega⟩, by omega⟩
theorem CB_1 {cp : Nat → Int32} {m : Int32} (hm : rg 1 2520 m) : CB cp m 1 0 0 := Or.inr ⟨0, by decide, by have := hm.1; omega, z_and _, Or.inl (by decide)⟩
