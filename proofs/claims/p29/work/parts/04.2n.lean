theorem r8_at {f : Nat → Int32} {p i : Int32} {a b : Int} (h : r8 f p) (hi : rg a b i) (h0 : 0 ≤ a) (hl : i.toInt < p.toInt) : rg 0 8 (f i.toNatClampNeg) := h _ (by rw [cl_of hi h0]; exact hl)
theorem r8_0 (f : Nat → Int32) : r8 f 0 := by
  intro i hi
  rw [(by decide : (0 : Int32).toInt = 0)] at hi
  omega
theorem r8_s {f f' : Nat → Int32} {p p' v : Int32} {a b : Int} (h : r8 f p) (e : f' = upd f p.toNatClampNeg v) (hv : rg 0 8 v) (hp : rg a b p) (h0 : 0 ≤ a) (hp' : p'.toInt = p.toInt + 1) : r8 f' p' := by
  intro i hi
  have c := cl_of hp h0
  rw [e]
  by_cases q : i = p.toNatClampNeg
  · rw [q, pk_us]
    exact hv
  · rw [pk_un q]
    exact h i (by omega)
theorem r8_le {f : Nat → Int32} {p n : Int32} (h : r8 f p) (hl : n.toInt ≤ p.toInt) : r8 f n := fun i hi => h i (by omega)
/-- the first places of one row are those of another -/
def cp (f g : Nat → Int32) (p : Int32) : Prop := ∀ i : Nat, (i : Int) < p.toInt → f i = g i
theorem cp_0 (f g : Nat → Int32) : cp f g 0 := by
  intro i hi
  rw [(by decide : (0 : Int32).toInt = 0)] at hi
  omega
theorem cp_s {f f' g : Nat → Int32} {p p' v : Int32} {a b : Int} (h : cp f g p) (e : f' = upd f p.toNatClampNeg v) (hv : v = g p.toNatClampNeg) (hp : rg a b p) (h0 : 0 ≤ a) (hp' : p'.toInt = p.toInt + 1) : cp f' g p' := by
  intro i hi
  have c := cl_of hp h0
  rw [e]
  by_cases q : i = p.toNatClampNeg
  · rw [q, pk_us, hv]
  · rw [pk_un q]
    exact h i (by omega)
theorem ds_cp {f g : Nat → Int32} {n p : Int32} (h : ds g n) (hc : cp f g p) (hl : n.toInt ≤ p.toInt) : ds f n := by
  intro i j hij hj
  rw [hc i (by omega), hc j (by omega)]
  exact h i j hij hj
theorem ds_le {f : Nat → Int32} {p n : Int32} (h : ds f p) (hl : n.toInt ≤ p.toInt) : ds f n := fun i j hij hj => h i j hij (by omega)
def dl (h : Int32) (f g : Nat → Int32) (b o : Int32) : Prop := h = 1 → ds f (mnF g b o)
theorem dl_0 (f g : Nat → Int32) (b o : Int32) : dl 0 f g b o := fun h => absurd h (by decide)
def bxo (y o g : Nat → Int32) (b : Int32) : Prop := ∀ j : Nat, j < 3 → 0 ≤ (y j).toInt → ow g b (o j)
theorem bx_at {y o g : Nat → Int32} {b i x v : Int32} (h : bxo y o g b) (hi : rg 0 2 i) (hx : x = y i.toNatClampNeg) (h0 : rg 0 200 x) (hv : v = o i.toNatClampNeg) : ow g b v := by
  have c := cl_of hi (by decide)
  rw [hv]
  refine h _ (by have := hi.2; omega) ?_
  rw [← hx]
  exact h0.1
theorem bx_upd {y o g y' o' : Nat → Int32} {b i v : Int32} {k : Nat} (h : bxo y o g b) (hw : ow g b v) (ey : y' = upd y k i) (eo : o' = upd o k v) : bxo y' o' g b := by
  intro j hj h0
  rw [eo]
  by_cases q : j = k
  · rw [q, pk_us]
    exact hw
  · rw [pk_un q]
    refine h j hj ?_
    rw [ey, pk_un q] at h0
    exact h0
theorem ow_x {g : Nat → Int32} {b o o' h x : Int32} (hw : ow g b o) (hx : x = g b.toNatClampNeg) (hh : rg 0 8 h) (hl : h.toInt < x.toInt) (e : o' = o ^^^ ((1 : Int32) <<< (h &&& 31))) : ow g b o' := by
  obtain ⟨n, k, h1, h2, h3, h4⟩ := hw
  obtain ⟨i, a1, rfl, _, b2⟩ := rg_nat hh (by decide)
  rw [hx, h2, nI_toInt a1, nI_toInt (by omega)] at hl
  have q : 2 ^ n ≤ 2 ^ 9 := Nat.pow_le_pow_right (by decide) h1
  have q2 : 2 ^ i < 2 ^ n := Nat.pow_lt_pow_right (by decide) (by omega)
  have l : k ^^^ 2 ^ i < 2 ^ n := Nat.xor_lt_two_pow h4 q2
  refine ⟨n, k ^^^ 2 ^ i, h1, h2, ?_, l⟩
  rw [e, h3, rg_1shl i (by omega)]
  refine rg_bv ?_ (by omega)
  rw [Int32.toBitVec_xor, BitVec.toNat_xor, pk_tn (by omega), pk_tn (by omega)]
/-! the search over rows -/
def inb (x y : Int32) : Prop := x.toBitVec.getLsbD y.toNatClampNeg = true
def dr (f g : Nat → Int32) (b o : Int32) : Prop := r8 f (mnF g b o) ∧ ds f (mnF g b o) ∧ ∀ i : Nat, (i : Int) < (mnF g b o).toInt → ¬ inb o (f i) ∧ (f i).toInt < (g b.toNatClampNeg).toInt
def gA (f : Nat → Int32) (d u o w : Int32) : Prop := (∀ i : Nat, (i : Int) < d.toInt → rg 0 8 (f i) ∧ inb u (f i) ∧ ¬ inb o (f i) ∧ (f i).toInt < w.toInt) ∧ ds f d ∧ ∀ x : Int32, rg 0 8 x → inb o x → inb u x
def gT (f : Nat → Int32) (d u o w : Int32) : Prop := gA f d u o w ∧ (0 ≤ d.toInt → 0 ≤ (f d.toNatClampNeg).toInt → rg 0 8 (f d.toNatClampNeg) ∧ inb u (f d.toNatClampNeg) ∧ ¬ inb o (f d.toNatClampNeg) ∧ (f d.toNatClampNeg).toInt < w.toInt ∧ ∀ i : Nat, (i : Int) < d.toInt → ¬ f i = f d.toNatClampNeg)
theorem inb_nI {x : Int32} {i : Nat} (hi : i < 2 ^ 31) : inb x (nI i) ↔ x.toBitVec.getLsbD i = true := by
  unfold inb
  rw [nI_clamp hi]
theorem inb_1 {u h z : Int32} (hh : rg 0 8 h) (hz : z = (u >>> (h &&& 31)) &&& 1) (hn : ¬ z = 1) : ¬ inb u h := by
  obtain ⟨i, a1, rfl, _, b2⟩ := rg_nat hh (by decide)
  rw [inb_nI a1]
  intro q
  have e := bit_bv u i (by omega)
  rw [if_pos q] at e
  apply hn
  rw [hz]
  apply Int32.toBitVec_inj.mp
  rw [e]
  rfl
theorem shl_get {i j : Nat} (hi : i < 31) (hj : j < 32) : ((1 : Int32) <<< (nI i &&& 31)).toBitVec.getLsbD j = decide (j = i) := by
  rw [rg_1shl i hi]
  have p : 2 ^ i < 2 ^ 31 := Nat.pow_lt_pow_right (by decide) hi
  have e : (nI (2 ^ i)).toBitVec.toNat = 2 ^ i := pk_tn (by omega)
  rw [← BitVec.testBit_toNat, e, Nat.testBit_two_pow]
  exact decide_eq_decide.mpr eq_comm
theorem inb_or {u h u' x : Int32} (hh : rg 0 8 h) (hx : rg 0 8 x) (e : u' = u ||| ((1 : Int32) <<< (h &&& 31))) : inb u' x ↔ inb u x ∨ x = h := by
  obtain ⟨i, a1, rfl, _, b2⟩ := rg_nat hh (by decide)
  obtain ⟨j, c1, rfl, _, d2⟩ := rg_nat hx (by decide)
  rw [inb_nI c1, inb_nI c1, e, Int32.toBitVec_or, BitVec.getLsbD_or, shl_get (by omega) (by omega), Bool.or_eq_true, decide_eq_true_eq]
  constructor
  · rintro (h | h)
    · exact Or.inl h
    · exact Or.inr (by rw [h])
  · rintro (h | h)
    · exact Or.inl h
    · exact Or.inr (nI_inj c1 a1 h)
theorem inb_off {u h u' x : Int32} (hh : rg 0 8 h) (hx : rg 0 8 x) (e : u' = u &&& (((1 : Int32) <<< (h &&& 31)) ^^^ (-1))) : inb u' x ↔ inb u x ∧ ¬ x = h := by
  obtain ⟨i, a1, rfl, _, b2⟩ := rg_nat hh (by decide)
  obtain ⟨j, c1, rfl, _, d2⟩ := rg_nat hx (by decide)
  have z : (Int32.toBitVec (-1)).getLsbD j = true := by
    have : Int32.toBitVec (-1) = BitVec.allOnes 32 := by decide
    rw [this, BitVec.getLsbD_allOnes]
    simp; omega
  rw [inb_nI c1, inb_nI c1, e, Int32.toBitVec_and, BitVec.getLsbD_and, Int32.toBitVec_xor, BitVec.getLsbD_xor, shl_get (by omega) (by omega), z, Bool.and_eq_true]
  constructor
  · rintro ⟨h, k⟩
    refine ⟨h, fun q => ?_⟩
    have := nI_inj c1 a1 q
    subst this
    simp at k
  · rintro ⟨h, k⟩
    refine ⟨h, ?_⟩
    have : ¬ j = i := fun q => k (by rw [q])
    simp [this]
theorem gT_0 {f : Nat → Int32} {o w : Int32} (h : f (0 : Int32).toNatClampNeg = -1) : gT f 0 o o w := by
  refine ⟨⟨fun i hi => ?_, ds_0 f, fun _ _ h => h⟩, fun _ h0 => ?_⟩
  · rw [(by decide : (0 : Int32).toInt = 0)] at hi
    omega
  · rw [h] at h0
    exact absurd h0 (by decide)
theorem gT_off {f : Nat → Int32} {d u o x u' w : Int32} (h : gT f d u o w) (hd : rg 0 8 d) (hx : x = f d.toNatClampNeg) (h0 : 0 ≤ x.toInt) (e : u' = u &&& (((1 : Int32) <<< (x &&& 31)) ^^^ (-1))) : gA f d u' o w := by
  obtain ⟨⟨a, b, c⟩, t⟩ := h
  rw [hx] at h0
  obtain ⟨t1, t2, t3, t5, t4⟩ := t hd.1 h0
  rw [← hx] at t1 t2 t3 t4
  refine ⟨fun i hi => ?_, b, fun y hy ho => ?_⟩
  · obtain ⟨p1, p2, p3, p4⟩ := a i hi
    exact ⟨p1, (inb_off t1 p1 e).mpr ⟨p2, t4 i hi⟩, p3, p4⟩
  · refine (inb_off t1 hy e).mpr ⟨c y hy ho, fun q => ?_⟩
    rw [q] at ho
    exact t3 ho
theorem gA_back {f f' : Nat → Int32} {d d' u o w : Int32} (h : gA f d u o w) (hd : rg 0 8 d) (e : ∀ i : Nat, (i : Int) < d.toInt → f' i = f i) (hd' : d'.toInt = d.toInt - 1) : gT f' d' u o w := by
  obtain ⟨a, b, c⟩ := h
  refine ⟨⟨fun i hi => ?_, fun i j hij hj => ?_, c⟩, fun h0 _ => ?_⟩
  · rw [e i (by omega)]
    exact a i (by omega)
  · rw [e i (by omega), e j (by omega)]
    exact b i j hij (by omega)
  · have q : d'.toNatClampNeg = (d.toInt - 1).toNat := by
      have hr : rg 0 8 d' := ⟨h0, by have := hd.2; omega⟩
      have := cl_of hr (by decide)
      omega
    have l : ((d'.toNatClampNeg : Nat) : Int) < d.toInt := by omega
    obtain ⟨p1, p2, p3, p4⟩ := a _ l
    rw [e _ l]
    refine ⟨p1, p2, p3, p4, fun i hi => ?_⟩
    rw [e i (by omega)]
    exact b i _ (by omega) l
theorem gA_put {f f' : Nat → Int32} {d d1 u u' o h w : Int32} (ha : gA f d u o w) (hd : rg 0 8 d) (hh : rg 0 8 h) (hw : h.toInt < w.toInt) (hn : ¬ inb u h) (ef : f' = upd f d.toNatClampNeg h) (eu : u' = u ||| ((1 : Int32) <<< (h &&& 31))) (hd1 : d1.toInt = d.toInt + 1) : gA f' d1 u' o w ∧ gT f' d u' o w := by
  obtain ⟨a, b, c⟩ := ha
  have cd := cl_of hd (by decide)
  have no : ¬ inb o h := fun q => hn (c h hh q)
  have ih : inb u' h := (inb_or hh hh eu).mpr (Or.inr rfl)
  have cc : ∀ x : Int32, rg 0 8 x → inb o x → inb u' x := fun x hx ho => (inb_or hh hx eu).mpr (Or.inl (c x hx ho))
  have lo : ∀ i : Nat, (i : Int) < d.toInt → f' i = f i := fun i hi => by rw [ef, pk_un (by omega)]
  have at_ : f' d.toNatClampNeg = h := by rw [ef, pk_us]
  have ne : ∀ i : Nat, (i : Int) < d.toInt → ¬ f i = h := fun i hi q => hn (q ▸ (a i hi).2.1)
  have A : ∀ i : Nat, (i : Int) < d.toInt → rg 0 8 (f' i) ∧ inb u' (f' i) ∧ ¬ inb o (f' i) ∧ (f' i).toInt < w.toInt := by
    intro i hi
    rw [lo i hi]
    obtain ⟨p1, p2, p3, p4⟩ := a i hi
    exact ⟨p1, (inb_or hh p1 eu).mpr (Or.inl p2), p3, p4⟩
  have D : ds f' d := by
    intro i j hij hj
    rw [lo i (by omega), lo j hj]
    exact b i j hij hj
  refine ⟨⟨fun i hi => ?_, fun i j hij hj => ?_, cc⟩, ⟨A, D, cc⟩, fun _ _ => ?_⟩
  · by_cases q : i = d.toNatClampNeg
    · rw [q, at_]
      exact ⟨hh, ih, no, hw⟩
    · exact A i (by omega)
  · by_cases q : j = d.toNatClampNeg
    · rw [q, at_, lo i (by omega)]
      exact ne i (by omega)
    · exact D i j hij (by omega)
  · rw [at_]
    refine ⟨hh, ih, no, hw, fun i hi => ?_⟩
    rw [lo i hi]
    exact ne i hi
theorem gA_push {f f' : Nat → Int32} {d u o w : Int32} (ha : gA f d u o w) (hd : rg 0 8 d) (ef : f' = upd f d.toNatClampNeg (-1)) : gT f' d u o w := by
  obtain ⟨a, b, c⟩ := ha
  have cd := cl_of hd (by decide)
  have lo : ∀ i : Nat, (i : Int) < d.toInt → f' i = f i := fun i hi => by rw [ef, pk_un (by omega)]
  refine ⟨⟨fun i hi => ?_, fun i j hij hj => ?_, c⟩, fun _ h0 => ?_⟩
  · rw [lo i hi]
    exact a i hi
  · rw [lo i (by omega), lo j hj]
    exact b i j hij hj
  · rw [ef, pk_us] at h0
    exact absurd h0 (by decide)
theorem gA_dr {f g : Nat → Int32} {d u b o n : Int32} (ha : gA f d u o (g b.toNatClampNeg)) (hn : n = mnF g b o) (he : d.toInt = n.toInt) : dr f g b o := by
  obtain ⟨a, b', c⟩ := ha
  unfold dr
  rw [← hn]
  refine ⟨fun i hi => (a i (by omega)).1, fun i j hij hj => b' i j hij (by omega), fun i hi => (a i (by omega)).2.2⟩
theorem dr_0 {f g : Nat → Int32} {b o n : Int32} (hn : n = mnF g b o) (h0 : n.toInt ≤ 0) : dr f g b o := by
  unfold dr
  rw [← hn]
  exact ⟨fun i hi => by omega, fun i j hij hj => by omega, fun i hi => by omega⟩
theorem gA_r8 {f : Nat → Int32} {d u o w : Int32} (ha : gA f d u o w) : r8 f d := fun i hi => (ha.1 i hi).1
/-! how far the search is -/
def vP (B : Nat) (m c : Nat) (f : Nat → Int32) : Nat → Nat
  | 0 => 0
  | k + 1 => vP B m c f k + (m * (f k).toInt.toNat + c) * B ^ (8 - k)
def vV (B : Nat) (m c e : Nat) (f : Nat → Int32) (d : Nat) : Nat := vP B m c f d + e * ((f d).toInt + 1).toNat * B ^ (8 - d)
theorem vP_congr {B m c : Nat} {f f' : Nat → Int32} : ∀ k, (∀ i, i < k → f' i = f i) → vP B m c f' k = vP B m c f k := by
  intro k
  induction k with
  | zero => intro _; rfl
  | succ k ih => intro h; show vP B m c f' k + _ = vP B m c f k + _; rw [ih (fun i hi => h i (by omega)), h k (by omega)]
theorem vP_le {B m c : Nat} {f : Nat → Int32} (hB : m * 8 + c + 1 ≤ B) : ∀ k, k ≤ 9 → (∀ i, i < k → rg 0 8 (f i)) → vP B m c f k + B ^ (9 - k) ≤ B ^ 9 := by
  intro k
  induction k with
  | zero => intro _ _; show 0 + B ^ 9 ≤ B ^ 9; omega
  | succ k ih =>
    intro hk h
    have i1 := ih (by omega) (fun i hi => h i (by omega))
    have e : B ^ (9 - k) = B * B ^ (8 - k) := by rw [show 9 - k = (8 - k) + 1 by omega, Nat.pow_succ, Nat.mul_comm]
    have r := h k (by omega)
    have r1 := r.1
    have r2 := r.2
    have l : (m * (f k).toInt.toNat + c + 1) * B ^ (8 - k) ≤ B * B ^ (8 - k) := by
      refine Nat.mul_le_mul_right _ (Nat.le_trans ?_ hB)
      have : m * (f k).toInt.toNat ≤ m * 8 := Nat.mul_le_mul_left _ (by omega)
      omega
    rw [Nat.add_mul, Nat.one_mul] at l
    show vP B m c f k + (m * (f k).toInt.toNat + c) * B ^ (8 - k) + B ^ (9 - (k + 1)) ≤ B ^ 9
    rw [show 9 - (k + 1) = 8 - k by omega]
    omega
theorem vV_le {B m c e : Nat} {f : Nat → Int32} (hB : m * 8 + c + 1 ≤ B) (he : e * 9 ≤ B) (d : Nat) (hd : d ≤ 8) (h : ∀ i, i < d → rg 0 8 (f i)) (hl : rg (-1) 8 (f d)) : vV B m c e f d ≤ B ^ 9 := by
  have a := vP_le (f := f) hB d (by omega) h
  have q : B ^ (9 - d) = B * B ^ (8 - d) := by rw [show 9 - d = (8 - d) + 1 by omega, Nat.pow_succ, Nat.mul_comm]
  have r1 := hl.1
  have r2 := hl.2
  have l : e * ((f d).toInt + 1).toNat * B ^ (8 - d) ≤ B * B ^ (8 - d) := by
    refine Nat.mul_le_mul_right _ (Nat.le_trans (Nat.mul_le_mul_left e (show ((f d).toInt + 1).toNat ≤ 9 by omega)) he)
  unfold vV
  omega
theorem vV_leaf {B m c e : Nat} {f f' : Nat → Int32} (hB : 0 < B) (he : 0 < e) (d : Nat) (h : ∀ i, i < d → f' i = f i) (hl : rg (-1) 8 (f d)) (hg : (f d).toInt < (f' d).toInt) : vV B m c e f d + 1 ≤ vV B m c e f' d := by
  unfold vV
  rw [vP_congr d h]
  have r1 := hl.1
  have p : 0 < B ^ (8 - d) := Nat.pow_pos hB
  have l : e * (((f d).toInt + 1).toNat + 1) * B ^ (8 - d) ≤ e * ((f' d).toInt + 1).toNat * B ^ (8 - d) := Nat.mul_le_mul_right _ (Nat.mul_le_mul_left e (by omega))
  rw [Nat.mul_add, Nat.mul_one, Nat.add_mul] at l
  have z : 1 ≤ e * B ^ (8 - d) := Nat.mul_pos he p
  omega
theorem vV_push {B m c e x : Nat} {f f' : Nat → Int32} (d : Nat) (h : ∀ i, i < d → f' i = f i) (hx : e * ((f d).toInt + 1).toNat + x ≤ m * (f' d).toInt.toNat + c) : vV B m c e f d + x * B ^ (8 - d) ≤ vV B m c e f' (d + 1) := by
  have l : (e * ((f d).toInt + 1).toNat + x) * B ^ (8 - d) ≤ (m * (f' d).toInt.toNat + c) * B ^ (8 - d) := Nat.mul_le_mul_right _ hx
  rw [Nat.add_mul] at l
  show vP B m c f d + e * ((f d).toInt + 1).toNat * B ^ (8 - d) + x * B ^ (8 - d) ≤ vP B m c f' d + (m * (f' d).toInt.toNat + c) * B ^ (8 - d) + e * ((f' (d + 1)).toInt + 1).toNat * B ^ (8 - (d + 1))
  rw [vP_congr d h]
  omega
theorem vV_back {B m c e x : Nat} {f f' : Nat → Int32} (d : Nat) (hd : d < 8) (h : ∀ i, i ≤ d → f' i = f i) (he : m * (f d).toInt.toNat + c + 1 ≤ e * ((f d).toInt + 1).toNat) (hx : e * ((f (d + 1)).toInt + 1).toNat + x ≤ B) : vV B m c e f (d + 1) + x * B ^ (8 - (d + 1)) ≤ vV B m c e f' d := by
  have l : (m * (f d).toInt.toNat + c + 1) * B ^ (8 - d) ≤ e * ((f d).toInt + 1).toNat * B ^ (8 - d) := Nat.mul_le_mul_right _ he
  have q : B ^ (8 - d) = B * B ^ (8 - (d + 1)) := by rw [show 8 - d = (8 - (d + 1)) + 1 by omega, Nat.pow_succ, Nat.mul_comm]
  have l2 : (e * ((f (d + 1)).toInt + 1).toNat + x) * B ^ (8 - (d + 1)) ≤ B * B ^ (8 - (d + 1)) := Nat.mul_le_mul_right _ hx
  rw [Nat.add_mul] at l l2
  show vP B m c f d + (m * (f d).toInt.toNat + c) * B ^ (8 - d) + e * ((f (d + 1)).toInt + 1).toNat * B ^ (8 - (d + 1)) + x * B ^ (8 - (d + 1)) ≤ vP B m c f' d + e * ((f' d).toInt + 1).toNat * B ^ (8 - d)
  rw [vP_congr d (fun i hi => h i (by omega)), h d (Nat.le_refl _)]
  rw [Nat.one_mul] at l
  omega
/-- the measure of the search, and what was found so far -/
def gM (f : Nat → Int32) (d : Int32) : Nat := if d.toInt < 0 then 0 else 20 ^ 9 + 1 - vV 20 2 1 2 f d.toInt.toNat
def fL (n : Int32) (f : Nat → Int32) (d : Int32) : Prop := 0 ≤ n.toInt ∧ n.toInt ≤ 387420489 ∧ (0 ≤ d.toInt → n.toInt ≤ (vV 9 1 0 1 f d.toInt.toNat : Int))
