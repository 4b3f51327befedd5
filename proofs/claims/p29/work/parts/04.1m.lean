theorem nI_inj {a b : Nat} (ha : a < 2 ^ 31) (hb : b < 2 ^ 31) (h : nI a = nI b) : a = b := by
  have := congrArg Int32.toInt h
  rw [nI_toInt ha, nI_toInt hb] at this
  omega
theorem rg_nat {a b : Int} {x : Int32} (h : rg a b x) (h0 : 0 ≤ a) : ∃ j : Nat, j < 2 ^ 31 ∧ x = nI j ∧ a ≤ (j : Int) ∧ (j : Int) ≤ b := by
  obtain ⟨j, h1, h2, rfl⟩ := rg_nI (rg_mono h h0 (Int.le_refl _))
  refine ⟨j, h2, rfl, ?_, h1⟩
  have := h.1
  rw [nI_toInt h2] at this
  exact this
theorem cl_nI {x : Int32} {j : Nat} (hj : j < 2 ^ 31) (h : x.toInt = (j : Int)) : x = nI j := by
  rw [fa_eq, nI_toInt hj]
  exact h
theorem cl_of {x : Int32} {a b : Int} (h : rg a b x) (h0 : 0 ≤ a) : (x.toNatClampNeg : Int) = x.toInt := by
  obtain ⟨j, h2, rfl, _, _⟩ := rg_nat h h0
  rw [nI_clamp h2, nI_toInt h2]
/-! how many bits -/
def bsG (s : Int32) : Nat → Int32
  | 0 => 0
  | k + 1 => bsG s k + ((s >>> (nI k &&& 31)) &&& 1)
def bsF (s : Int32) : Int32 := bsG s 31
def mnF (g : Nat → Int32) (b o : Int32) : Int32 := g b.toNatClampNeg - bsF o
def ow (g : Nat → Int32) (b o : Int32) : Prop := ∃ n k : Nat, n ≤ 9 ∧ g b.toNatClampNeg = nI n ∧ o = nI k ∧ k < 2 ^ n
theorem bs_step {s n n' k k' : Int32} (h : n = bsG s k.toNatClampNeg) (hk : rg 0 30 k) (hn : n' = n + ((s >>> (k &&& 31)) &&& 1)) (hk' : k'.toInt = k.toInt + 1) : n' = bsG s k'.toNatClampNeg := by
  obtain ⟨j, h2, rfl, _, b2⟩ := rg_nat hk (by decide)
  rw [nI_toInt h2] at hk'
  have e : k' = nI (j + 1) := cl_nI (by omega) (by omega)
  rw [nI_clamp h2] at h
  rw [e, nI_clamp (by omega), hn, h]
  rfl
theorem bs_end {s n k : Int32} (h : n = bsG s k.toNatClampNeg) (hk : rg 31 31 k) : n = bsF s := by
  obtain ⟨j, h2, rfl, b1, b2⟩ := rg_nat hk (by decide)
  have : j = 31 := by omega
  subst this
  rw [nI_clamp h2] at h
  exact h
theorem bs_0 (s : Int32) : (0 : Int32) = bsG s (0 : Int32).toNatClampNeg := by
  rw [(by decide : (0 : Int32).toNatClampNeg = 0)]
  rfl
def popG (k : Nat) : Nat → Nat
  | 0 => 0
  | i + 1 => popG k i + k / 2 ^ i % 2
theorem bs_pop : ∀ k, k < 512 → bsF (nI k) = nI (popG k 9) := by decide +kernel
theorem pop_le : ∀ n, n < 10 → ∀ k, k < 2 ^ n → popG k 9 ≤ n := by decide +kernel
theorem ow_mn {g : Nat → Int32} {b o : Int32} (h : ow g b o) : ∃ n k m : Nat, n ≤ 9 ∧ g b.toNatClampNeg = nI n ∧ o = nI k ∧ k < 2 ^ n ∧ m = n - popG k 9 ∧ popG k 9 ≤ n ∧ mnF g b o = nI m := by
  obtain ⟨n, k, h1, h2, h3, h4⟩ := h
  have l := pop_le n (by omega) k h4
  have q : 2 ^ n ≤ 2 ^ 9 := Nat.pow_le_pow_right (by decide) h1
  refine ⟨n, k, n - popG k 9, h1, h2, h3, h4, rfl, l, ?_⟩
  unfold mnF
  rw [h2, h3, bs_pop k (by omega)]
  rw [fa_eq, Int32.toInt_sub, nI_toInt (by omega), nI_toInt (by omega), nI_toInt (by omega)]
  rw [Int.bmod_eq_of_le (by omega) (by omega)]
  omega
theorem mn_rg {g : Nat → Int32} {b o r : Int32} (h : ow g b o) (e : r = mnF g b o) : rg 0 9 r := by
  obtain ⟨n, k, m, h1, _, _, _, hm, _, hr⟩ := ow_mn h
  rw [e, hr]
  exact rg_ofN (by omega) (by omega) (by omega)
theorem mn_le {g : Nat → Int32} {b o r x : Int32} (h : ow g b o) (e : r = mnF g b o) (hx : x = g b.toNatClampNeg) : r.toInt ≤ x.toInt := by
  obtain ⟨n, k, m, h1, h2, _, _, hm, _, hr⟩ := ow_mn h
  rw [e, hr, hx, h2, nI_toInt (by omega), nI_toInt (by omega)]
  omega
theorem ow_0 {g : Nat → Int32} {b : Int32} (hg : rg 0 9 (g b.toNatClampNeg)) : ow g b 0 := by
  obtain ⟨j, h2, e, _, b2⟩ := rg_nat hg (by decide)
  exact ⟨j, 0, by omega, e, rfl, Nat.two_pow_pos j⟩
/-! what a letter is; how deep a law's code piles -/
def ltF (x : Int32) : Int32 := if 97 ≤ x ∧ x ≤ 122 then 1 else 0
theorem lt_y {x : Int32} (h : rg 97 122 x) : (1 : Int32) = ltF x := by
  unfold ltF
  rw [if_pos]
  rw [fa_le, fa_le, (by decide : (97 : Int32).toInt = 97), (by decide : (122 : Int32).toInt = 122)]
  exact h
theorem lt_n {x : Int32} {a b : Int} (h : rg a b x) (q : b < 97 ∨ 122 < a) : (0 : Int32) = ltF x := by
  unfold ltF
  rw [if_neg]
  rw [fa_le, fa_le, (by decide : (97 : Int32).toInt = 97), (by decide : (122 : Int32).toInt = 122)]
  have h1 := h.1
  have h2 := h.2
  omega
def stp (x : Int32) (d : Nat) : Option Nat := if x = 126 then (if 1 ≤ d then some d else none) else if ltF x = 1 then (if d < 70 then some (d + 1) else none) else (if 2 ≤ d then some (d - 1) else none)
def dp (c : Nat → Int32) (lo : Nat) : Nat → Option Nat
  | 0 => some 0
  | k + 1 => (dp c lo k).bind (stp (c (lo + k)))
theorem dp_pre {c : Nat → Int32} {lo : Nat} : ∀ (m k : Nat), k ≤ m → (dp c lo m).isSome → (dp c lo k).isSome := by
  intro m
  induction m with
  | zero => intro k hk h; have : k = 0 := by omega
            subst this; exact h
  | succ m ih =>
    intro k hk h
    by_cases e : k = m + 1
    · subst e; exact h
    · refine ih k (by omega) ?_
      have h' : ((dp c lo m).bind (stp (c (lo + m)))).isSome := h
      cases hd : dp c lo m with
      | none => rw [hd] at h'; exact absurd h' (by simp)
      | some d => rfl
theorem dp_congr {c c' : Nat → Int32} {lo : Nat} : ∀ (m : Nat), (∀ j, j < m → c' (lo + j) = c (lo + j)) → dp c' lo m = dp c lo m := by
  intro m
  induction m with
  | zero => intro _; rfl
  | succ m ih =>
    intro h
    show (dp c' lo m).bind (stp (c' (lo + m))) = (dp c lo m).bind (stp (c (lo + m)))
    rw [ih (fun j hj => h j (by omega)), h m (by omega)]
def gcd_ (c t : Nat → Int32) (b : Int32) : Prop := ∃ n m : Nat, n ≤ 1 ∧ b = nI n ∧ m ≤ 400 ∧ t b.toNatClampNeg = nI (500 * n + m) ∧ (dp c (500 * n) m).isSome
def cmI (c : Nat → Int32) (b n k : Int32) : Prop := ∃ q j d : Nat, q ≤ 1 ∧ b = nI q ∧ j ≤ 400 ∧ k = nI (500 * q + j) ∧ n = nI d ∧ d ≤ 70 ∧ dp c (500 * q) j = some d
theorem cm_0 {c : Nat → Int32} {b k : Int32} (hb : rg 0 1 b) (hk : k = 500 * b) : cmI c b 0 k := by
  obtain ⟨q, h2, rfl, _, b2⟩ := rg_nat hb (by decide)
  have : q ≤ 1 := by omega
  refine ⟨q, 0, 0, this, rfl, by omega, ?_, rfl, by omega, rfl⟩
  rw [hk]
  rcases (show q = 0 ∨ q = 1 by omega) with rfl | rfl <;> decide
theorem cm_step {c t : Nat → Int32} {b n k x l : Int32} (hg : gcd_ c t b) (hc : cmI c b n k) (hl : l = t b.toNatClampNeg) (hk : ¬ l ≤ k) (hx : x = c k.toNatClampNeg) :
    (x = 126 → rg 1 70 n ∧ ∀ k' : Int32, k'.toInt = k.toInt + 1 → cmI c b n k') ∧
    (¬ x = 126 → (1 : Int32) = ltF x → rg 0 69 n ∧ ∀ n' k' : Int32, n'.toInt = n.toInt + 1 → k'.toInt = k.toInt + 1 → cmI c b n' k') ∧
    (¬ x = 126 → (0 : Int32) = ltF x → rg 2 70 n ∧ ∀ n' k' : Int32, n'.toInt = n.toInt - 1 → k'.toInt = k.toInt + 1 → cmI c b n' k') := by
  obtain ⟨q, m, hq, hb, hm, ht, hs⟩ := hg
  obtain ⟨q2, j, d, hq2, hb2, hj, hkj, hn, hd, hdp⟩ := hc
  have e : q2 = q := nI_inj (by omega) (by omega) (hb2.symm.trans hb)
  subst e
  rw [hl, ht, hkj, fa_le, nI_toInt (by omega), nI_toInt (by omega)] at hk
  have hjm : j < m := by omega
  have hs1 := dp_pre (lo := 500 * q2) (c := c) m (j + 1) (by omega) hs
  have ex : x = c (500 * q2 + j) := by rw [hx, hkj, nI_clamp (by omega)]
  have hs2 : (stp x d).isSome := by
    have h' : ((dp c (500 * q2) j).bind (stp (c (500 * q2 + j)))).isSome := hs1
    rw [hdp, ← ex] at h'
    exact h'
  have nx : ∀ d', stp x d = some d' → d' ≤ 70 → ∀ n' k' : Int32, n' = nI d' → k'.toInt = k.toInt + 1 → cmI c b n' k' := by
    intro d' h1 h70 n' k' h2 h3
    refine ⟨q2, j + 1, d', hq2, hb2, by omega, ?_, h2, h70, ?_⟩
    · rw [hkj, nI_toInt (by omega)] at h3
      exact cl_nI (by omega) (by omega)
    · show (dp c (500 * q2) j).bind (stp (c (500 * q2 + j))) = some d'
      rw [hdp, ← ex]
      exact h1
  have hnd : n.toInt = (d : Int) := by rw [hn, nI_toInt (by omega)]
  refine ⟨fun h => ?_, fun h h1 => ?_, fun h h1 => ?_⟩
  · unfold stp at hs2 nx
    rw [if_pos h] at hs2 nx
    by_cases g : 1 ≤ d
    · rw [if_pos g] at nx
      exact ⟨by unfold rg; omega, fun k' hk' => nx d rfl hd n k' hn hk'⟩
    · rw [if_neg g] at hs2
      exact absurd hs2 (by simp)
  · unfold stp at hs2 nx
    rw [if_neg h, if_pos h1.symm] at hs2 nx
    by_cases g : d < 70
    · rw [if_pos g] at nx
      exact ⟨by unfold rg; omega, fun n' k' hn' hk' => nx (d + 1) rfl (by omega) n' k' (cl_nI (by omega) (by omega)) hk'⟩
    · rw [if_neg g] at hs2
      exact absurd hs2 (by simp)
  · have h0 : ¬ ltF x = 1 := by rw [← h1]; decide
    unfold stp at hs2 nx
    rw [if_neg h, if_neg h0] at hs2 nx
    by_cases g : 2 ≤ d
    · rw [if_pos g] at nx
      exact ⟨by unfold rg; omega, fun n' k' hn' hk' => nx (d - 1) rfl (by omega) n' k' (cl_nI (by omega) (by omega)) hk'⟩
    · rw [if_neg g] at hs2
      exact absurd hs2 (by simp)
/-! more places than holes -/
theorem php : ∀ (n : Nat) (f : Nat → Nat), (∀ i, i ≤ n → f i < n) → (∀ i j, i < j → j ≤ n → f i ≠ f j) → False := by
  intro n
  induction n with
  | zero => intro f h _; exact absurd (h 0 (Nat.le_refl _)) (Nat.not_lt_zero _)
  | succ n ih =>
    intro f h hd
    refine ih (fun i => if f i = n then f (n + 1) else f i) ?_ ?_
    · intro i hi
      show (if f i = n then f (n + 1) else f i) < n
      have h1 := h i (by omega)
      have h2 := h (n + 1) (Nat.le_refl _)
      have h3 := hd i (n + 1) (by omega) (Nat.le_refl _)
      split <;> omega
    · intro i j hij hj
      show (if f i = n then f (n + 1) else f i) ≠ (if f j = n then f (n + 1) else f j)
      have h1 := hd i j hij (by omega)
      have h2 := hd i (n + 1) (by omega) (Nat.le_refl _)
      have h3 := hd j (n + 1) (by omega) (Nat.le_refl _)
      split <;> split <;> omega
/-! places that differ -/
def ds (f : Nat → Int32) (n : Int32) : Prop := ∀ i j : Nat, i < j → (j : Int) < n.toInt → ¬ f i = f j
def nt (f : Nat → Int32) (k h : Int32) : Prop := ∀ i : Nat, (i : Int) < k.toInt → ¬ f i = h
def r8 (f : Nat → Int32) (n : Int32) : Prop := ∀ i : Nat, (i : Int) < n.toInt → rg 0 8 (f i)
theorem nt_0 (f : Nat → Int32) (h : Int32) : nt f 0 h := by
  intro i hi
  rw [(by decide : (0 : Int32).toInt = 0)] at hi
  omega
theorem nt_s {f : Nat → Int32} {k k' h x : Int32} (hn : nt f k h) (hx : x = f k.toNatClampNeg) (hne : ¬ x = h) (hk : rg 0 9 k) (hk' : k'.toInt = k.toInt + 1) : nt f k' h := by
  intro i hi
  by_cases e : (i : Int) < k.toInt
  · exact hn i e
  · have c := cl_of hk (by decide)
    have : i = k.toNatClampNeg := by omega
    rw [this, ← hx]
    exact hne
theorem ds_0 (f : Nat → Int32) : ds f 0 := by
  intro i j _ hj
  rw [(by decide : (0 : Int32).toInt = 0)] at hj
  omega
theorem ds_room {f : Nat → Int32} {n k h : Int32} (hf : rgA 0 8 f) (hd : ds f n) (hn : nt f k h) (hk : n.toInt ≤ k.toInt) (hh : rg 0 8 h) (h9 : rg 0 9 n) : rg 0 8 n := by
  refine ⟨h9.1, ?_⟩
  rcases Int.lt_or_le 8 n.toInt with g | g
  · exfalso
    have h2 := h9.2
    refine php 9 (fun i => if i < 9 then (f i).toInt.toNat else h.toInt.toNat) ?_ ?_
    · intro i hi
      show (if i < 9 then (f i).toInt.toNat else h.toInt.toNat) < 9
      have a := hf i
      have a1 := a.1
      have a2 := a.2
      have b1 := hh.1
      have b2 := hh.2
      split <;> omega
    · intro i j hij hj
      show (if i < 9 then (f i).toInt.toNat else h.toInt.toNat) ≠ (if j < 9 then (f j).toInt.toNat else h.toInt.toNat)
      have a := hf i
      have a1 := a.1
      have b := hf j
      have b1 := b.1
      have c1 := hh.1
      rw [if_pos (by omega)]
      by_cases e : j < 9
      · rw [if_pos e]
        have := hd i j hij (by omega)
        rw [fa_eq] at this
        omega
      · rw [if_neg e]
        have := hn i (by omega)
        rw [fa_eq] at this
        omega
  · exact g
theorem ds_push {f f' : Nat → Int32} {n n' k h : Int32} (hd : ds f n) (hn : nt f k h) (hk : n.toInt ≤ k.toInt) (h8 : rg 0 8 n) (e : f' = upd f n.toNatClampNeg h) (hn' : n'.toInt = n.toInt + 1) : ds f' n' := by
  intro i j hij hj
  have c := cl_of h8 (by decide)
  rw [e, pk_un (show i ≠ n.toNatClampNeg by omega)]
  by_cases q : j = n.toNatClampNeg
  · rw [q, pk_us]
    exact hn i (by omega)
  · rw [pk_un q]
    exact hd i j hij (by omega)
