def rg (lo hi : Int) (x : Int32) : Prop := lo ≤ x.toInt ∧ x.toInt ≤ hi
def rgA (lo hi : Int) (f : Nat → Int32) : Prop := ∀ j, rg lo hi (f j)
def bx (a b c : Nat) : Nat → Option Nat := fun k => if k = 0 then some a else if k = 1 then some b else if k = 2 then some c else none
theorem rg_mono {a b c d : Int} {x : Int32} (h : rg a b x) (h1 : c ≤ a) (h2 : b ≤ d) : rg c d x := ⟨Int.le_trans h1 h.1, Int.le_trans h.2 h2⟩
theorem rg_k {x : Int32} {c : Int} (h : x.toInt = c) : rg c c x := ⟨by omega, by omega⟩
theorem rg_any (x : Int32) : rg (-2147483648) 2147483647 x := ⟨by have := x.le_toInt; omega, by have := x.toInt_lt; omega⟩
theorem rg_nI {b : Int} {x : Int32} (h : rg 0 b x) : ∃ j : Nat, (j : Int) ≤ b ∧ j < 2 ^ 31 ∧ x = nI j := by
  obtain ⟨j, hj, e⟩ := nI_of (x := x) (by rw [fa_lt, (by decide : (0 : Int32).toInt = 0)]; have := h.1; omega)
  refine ⟨j, ?_, hj, e⟩
  have h2 := h.2
  rw [e, nI_toInt hj] at h2
  exact h2
theorem rg_ofN {j : Nat} {a b : Int} (hj : j < 2 ^ 31) (h1 : a ≤ (j : Int)) (h2 : (j : Int) ≤ b) : rg a b (nI j) := by
  unfold rg
  rw [nI_toInt hj]
  exact ⟨h1, h2⟩
theorem rg_addQ {a b c d : Int} {x y : Int32} (hx : rg a b x) (hy : rg c d y) (h1 : -2147483648 ≤ a + c) (h2 : b + d ≤ 2147483647) : (x + y).toInt = x.toInt + y.toInt := by
  obtain ⟨p1, p2⟩ := hx
  obtain ⟨q1, q2⟩ := hy
  rw [Int32.toInt_add]
  exact Int.bmod_eq_of_le (by omega) (by omega)
theorem rg_add {a b c d : Int} {x y : Int32} (hx : rg a b x) (hy : rg c d y) (h1 : -2147483648 ≤ a + c) (h2 : b + d ≤ 2147483647) : rg (a + c) (b + d) (x + y) := by
  have e := rg_addQ hx hy h1 h2
  obtain ⟨p1, p2⟩ := hx
  obtain ⟨q1, q2⟩ := hy
  exact ⟨by rw [e]; omega, by rw [e]; omega⟩
theorem rg_addE {a b n : Int} {x y : Int32} (hx : rg a b x) (hy : rg n n y) (h1 : -2147483648 ≤ a + n) (h2 : b + n ≤ 2147483647) (_ : True) : (x + y).toInt = x.toInt + n := by
  have e := rg_addQ hx hy h1 h2
  have q1 := hy.1
  have q2 := hy.2
  omega
theorem rg_addE' {a b n : Int} {x y : Int32} (hx : rg a b x) (hy : rg n n y) (h1 : -2147483648 ≤ a + n) (h2 : b + n ≤ 2147483647) (_ : True) : (y + x).toInt = x.toInt + n := by
  have e := rg_addQ hy hx (by omega) (by omega)
  have q1 := hy.1
  have q2 := hy.2
  omega
theorem rg_subQ {a b c d : Int} {x y : Int32} (hx : rg a b x) (hy : rg c d y) (h1 : -2147483648 ≤ a - d) (h2 : b - c ≤ 2147483647) : (x - y).toInt = x.toInt - y.toInt := by
  obtain ⟨p1, p2⟩ := hx
  obtain ⟨q1, q2⟩ := hy
  rw [Int32.toInt_sub]
  exact Int.bmod_eq_of_le (by omega) (by omega)
theorem rg_sub {a b c d : Int} {x y : Int32} (hx : rg a b x) (hy : rg c d y) (h1 : -2147483648 ≤ a - d) (h2 : b - c ≤ 2147483647) : rg (a - d) (b - c) (x - y) := by
  have e := rg_subQ hx hy h1 h2
  obtain ⟨p1, p2⟩ := hx
  obtain ⟨q1, q2⟩ := hy
  exact ⟨by rw [e]; omega, by rw [e]; omega⟩
theorem rg_subE {a b n : Int} {x y : Int32} (hx : rg a b x) (hy : rg n n y) (h1 : -2147483648 ≤ a - n) (h2 : b - n ≤ 2147483647) (_ : True) : (x - y).toInt = x.toInt + -n := by
  have e := rg_subQ hx hy h1 h2
  have q1 := hy.1
  have q2 := hy.2
  omega
theorem rg_neg {a b : Int} {x : Int32} (hx : rg a b x) (h1 : -2147483648 < a) : rg (-b) (-a) (-x) := by
  obtain ⟨p1, p2⟩ := hx
  have hm := (rg_any x).2
  have e : (-x).toInt = -x.toInt := by
    rw [Int32.toInt_neg]
    exact Int.bmod_eq_of_le (by omega) (by omega)
  exact ⟨by rw [e]; omega, by rw [e]; omega⟩
theorem rg_mul {a b c d : Int} {x y : Int32} (hx : rg a b x) (hy : rg c d y) (h1 : 0 ≤ a) (h2 : 0 ≤ c) (h3 : b * d ≤ 2147483647) : rg (a * c) (b * d) (x * y) := by
  obtain ⟨p1, p2⟩ := hx
  obtain ⟨q1, q2⟩ := hy
  have u : x.toInt * y.toInt ≤ b * d := Int.mul_le_mul p2 q2 (by omega) (by omega)
  have w : a * c ≤ x.toInt * y.toInt := Int.mul_le_mul p1 q1 h2 (by omega)
  have z : 0 ≤ a * c := Int.mul_nonneg h1 h2
  have e : (x * y).toInt = x.toInt * y.toInt := by
    rw [Int32.toInt_mul]
    exact Int.bmod_eq_of_le (by omega) (by omega)
  exact ⟨by rw [e]; exact w, by rw [e]; exact u⟩
theorem rg_bv {n : Nat} {x : Int32} (h : x.toBitVec.toNat = n) (hn : n < 2 ^ 31) : x = nI n := by
  apply Int32.toBitVec_inj.mp
  apply BitVec.eq_of_toNat_eq
  rw [h, pk_tn (by omega)]
theorem rg_andl {b : Int} {x y : Int32} (hx : rg 0 b x) : rg 0 b (x &&& y) := by
  obtain ⟨j, h1, h2, rfl⟩ := rg_nI hx
  have e : (nI j &&& y).toBitVec.toNat = j &&& y.toBitVec.toNat := by rw [Int32.toBitVec_and, BitVec.toNat_and, pk_tn (by omega)]
  have l : j &&& y.toBitVec.toNat ≤ j := Nat.and_le_left
  rw [rg_bv e (by omega)]
  exact rg_ofN (by omega) (by omega) (by omega)
theorem rg_andr {b : Int} {x y : Int32} (hy : rg 0 b y) : rg 0 b (x &&& y) := by
  rw [Int32.and_comm]
  exact rg_andl hy
theorem rg_or (k : Nat) {x y : Int32} (hx : rg 0 (2 ^ k - 1) x) (hy : rg 0 (2 ^ k - 1) y) (hk : k ≤ 31) : rg 0 (2 ^ k - 1) (x ||| y) := by
  obtain ⟨i, a1, a2, rfl⟩ := rg_nI hx
  obtain ⟨j, b1, b2, rfl⟩ := rg_nI hy
  have p : (2 : Int) ^ k = ((2 ^ k : Nat) : Int) := by simp
  have q : 2 ^ k ≤ 2 ^ 31 := Nat.pow_le_pow_right (by decide) hk
  have l : i ||| j < 2 ^ k := Nat.or_lt_two_pow (by omega) (by omega)
  have e : (nI i ||| nI j).toBitVec.toNat = i ||| j := by rw [Int32.toBitVec_or, BitVec.toNat_or, pk_tn (by omega), pk_tn (by omega)]
  rw [rg_bv e (by omega)]
  exact rg_ofN (by omega) (by omega) (by omega)
theorem rg_xor (k : Nat) {x y : Int32} (hx : rg 0 (2 ^ k - 1) x) (hy : rg 0 (2 ^ k - 1) y) (hk : k ≤ 31) : rg 0 (2 ^ k - 1) (x ^^^ y) := by
  obtain ⟨i, a1, a2, rfl⟩ := rg_nI hx
  obtain ⟨j, b1, b2, rfl⟩ := rg_nI hy
  have p : (2 : Int) ^ k = ((2 ^ k : Nat) : Int) := by simp
  have q : 2 ^ k ≤ 2 ^ 31 := Nat.pow_le_pow_right (by decide) hk
  have l : i ^^^ j < 2 ^ k := Nat.xor_lt_two_pow (by omega) (by omega)
  have e : (nI i ^^^ nI j).toBitVec.toNat = i ^^^ j := by rw [Int32.toBitVec_xor, BitVec.toNat_xor, pk_tn (by omega), pk_tn (by omega)]
  rw [rg_bv e (by omega)]
  exact rg_ofN (by omega) (by omega) (by omega)
theorem rg_1shl : ∀ j, j < 31 → (1 : Int32) <<< (nI j &&& 31) = nI (2 ^ j) := by decide +kernel
theorem rg_shl1 (k : Nat) {y : Int32} (hy : rg 0 (k : Int) y) (hk : k ≤ 30) : rg 1 ((2 ^ k : Nat) : Int) ((1 : Int32) <<< (y &&& 31)) := by
  obtain ⟨j, h1, h2, rfl⟩ := rg_nI hy
  have hj : j ≤ k := by omega
  rw [rg_1shl j (by omega)]
  have q : 2 ^ j ≤ 2 ^ k := Nat.pow_le_pow_right (by decide) hj
  have q2 : 2 ^ k ≤ 2 ^ 30 := Nat.pow_le_pow_right (by decide) hk
  have q3 : 0 < 2 ^ j := Nat.two_pow_pos j
  exact rg_ofN (by omega) (by omega) (by omega)
theorem rg_shr {b : Int} {x y : Int32} (hx : rg 0 b x) : rg 0 b (x >>> (y &&& 31)) := by
  have e := pk_shr x (y &&& 31) _ rfl
  obtain ⟨p1, p2⟩ := hx
  rw [Int.shiftRight_eq_div_pow] at e
  have l1 : 0 ≤ x.toInt / ((2 ^ ((y &&& 31).toBitVec.smod 32).toNat : Nat) : Int) := Int.ediv_nonneg p1 (Int.natCast_nonneg _)
  have l2 : x.toInt / ((2 ^ ((y &&& 31).toBitVec.smod 32).toNat : Nat) : Int) ≤ x.toInt := Int.ediv_le_self _ p1
  exact ⟨by rw [e]; exact l1, by rw [e]; omega⟩
theorem rg_in {n : Nat} {x : Int32} (h : rg 0 ((n : Int) - 1) x) : vp_in x n := vp_in_iff.mpr ⟨h.1, by have := h.2; omega⟩
theorem rg_nz {b : Int} {x : Int32} (h : rg 1 b x) : ¬ x = 0 := by
  intro e
  have h1 := h.1
  rw [e, (by decide : (0 : Int32).toInt = 0)] at h1
  omega
theorem rg_eq {c : Int} {x y : Int32} (h : rg c c x) (hy : y.toInt = c) : x = y := by
  rw [fa_eq]
  have h1 := h.1
  have h2 := h.2
  omega
theorem rg_ne {a b : Int} {x y : Int32} (h : rg a b x) (hy : y.toInt < a ∨ b < y.toInt) : ¬ x = y := by
  intro e
  subst e
  have h1 := h.1
  have h2 := h.2
  omega
theorem rg_meet {a b c d l h : Int} {x : Int32} (h1 : rg a b x) (h2 : rg c d x) (hl : l ≤ a ∨ l ≤ c) (hh : b ≤ h ∨ d ≤ h) : rg l h x := by
  obtain ⟨p1, p2⟩ := h1
  obtain ⟨q1, q2⟩ := h2
  exact ⟨by omega, by omega⟩
theorem rg_01 {x : Int32} (h : rg 0 1 x) : x = 0 ∨ x = 1 := by
  rw [fa_eq, fa_eq, (by decide : (0 : Int32).toInt = 0), (by decide : (1 : Int32).toInt = 1)]
  have h1 := h.1
  have h2 := h.2
  omega
theorem rg_zn {x : Int32} (h : rg 0 1 x) : narrow .boolean (.int x) = .int x := by rcases rg_01 h with rfl | rfl <;> rfl
theorem rg_zf {x : Int32} (h : rg 0 1 x) : fits .boolean (.int x) = true := by rcases rg_01 h with rfl | rfl <;> rfl
theorem rg_zv {x : Int32} (h : rg 0 1 x) : vp_nar .boolean x = x := by rcases rg_01 h with rfl | rfl <;> rfl
theorem rgA_upd {lo hi : Int} {f : Nat → Int32} {k : Nat} {x : Int32} (h : rgA lo hi f) (hx : rg lo hi x) : rgA lo hi (upd f k x) := by
  intro j
  by_cases e : j = k
  · subst e
    rw [pk_us]
    exact hx
  · rw [pk_un e]
    exact h j
theorem rgA_updZ {lo hi : Int} {f : Nat → Int32} {k : Nat} {x : Int32} (h : rgA lo hi f) (hx : rg lo hi x) (h1 : rg 0 1 x) : rgA lo hi (upd f k (vp_nar .boolean x)) := by
  rw [rg_zv h1]
  exact rgA_upd h hx
theorem rgA_cpy {lo hi : Int} {f g : Nat → Int32} {sp dp n : Nat} (hf : rgA lo hi f) (hg : rgA lo hi g) : rgA lo hi (va_cpy f g sp dp n) := by
  intro j
  unfold va_cpy
  split
  · exact hf _
  · exact hg _
theorem rgA_k {lo hi : Int} {x : Int32} (h : rg lo hi x) : rgA lo hi (fun _ => x) := fun _ => h
theorem rg_max {a b c d : Int} {x y : Int32} (hx : rg a b x) (hy : rg c d y) : rg (max a c) (max b d) (if x < y then y else x) := by
  obtain ⟨p1, p2⟩ := hx
  obtain ⟨q1, q2⟩ := hy
  split <;> rename_i h <;> rw [fa_lt] at h <;> exact ⟨by omega, by omega⟩
theorem rg_min {a b c d : Int} {x y : Int32} (hx : rg a b x) (hy : rg c d y) : rg (min a c) (min b d) (if y < x then y else x) := by
  obtain ⟨p1, p2⟩ := hx
  obtain ⟨q1, q2⟩ := hy
  split <;> rename_i h <;> rw [fa_lt] at h <;> exact ⟨by omega, by omega⟩
theorem rg_off {a b c d : Int} {x : Int32} (h1 : rg a b x) (h2 : rg c d x) (h : b < c ∨ d < a) : False := by
  obtain ⟨p1, p2⟩ := h1
  obtain ⟨q1, q2⟩ := h2
  omega
theorem rg_shrP {b d : Int} {x y : Int32} (hx : rg 0 b x) (hq : rg 1 d (x >>> (y &&& 31))) : rg 1 b x := by
  have h := rg_shr (y := y) (rg_mono (rg_k (x := x) rfl) hx.1 (Int.le_refl _))
  exact ⟨Int.le_trans hq.1 h.2, hx.2⟩
theorem rg_andP {b d : Int} {x y : Int32} (hx : rg 0 b x) (hq : rg 1 d (x &&& y)) : rg 1 b x := by
  have h := rg_andl (y := y) (rg_mono (rg_k (x := x) rfl) hx.1 (Int.le_refl _))
  exact ⟨Int.le_trans hq.1 h.2, hx.2⟩
theorem rg_andP' {b d : Int} {x y : Int32} (hy : rg 0 b y) (hq : rg 1 d (x &&& y)) : rg 1 b y := by
  rw [Int32.and_comm] at hq
  exact rg_andP hy hq
theorem rg_ushr (k : Nat) {x s : Int32} (hs : ((s.toUInt32 &&& Int32.toUInt32 31).toBitVec % 32).toNat = k) (hk : 1 ≤ k ∧ k ≤ 31) : rg 0 (((2 ^ (32 - k) : Nat) : Int) - 1) ((x.toUInt32 >>> (s.toUInt32 &&& Int32.toUInt32 31)).toInt32) := by
  have e := pk_ushr x s k hs
  have l : x.toBitVec.toNat < 2 ^ 32 := x.toBitVec.isLt
  have q : 2 ^ 32 = 2 ^ k * 2 ^ (32 - k) := by rw [← Nat.pow_add]; congr 1; omega
  have d : x.toBitVec.toNat / 2 ^ k < 2 ^ (32 - k) := by
    rw [Nat.div_lt_iff_lt_mul (Nat.two_pow_pos k), Nat.mul_comm, ← q]
    exact l
  have m : 2 ^ (32 - k) ≤ 2 ^ 31 := Nat.pow_le_pow_right (by decide) (by omega)
  rw [rg_bv e (by omega)]
  exact rg_ofN (by omega) (by omega) (by omega)
theorem rg_div {b d : Int} {x y : Int32} (hx : rg 0 b x) (hy : rg 1 d y) : rg 0 b (x / y) := by
  obtain ⟨i, a1, a2, rfl⟩ := rg_nI hx
  obtain ⟨j, b1, b2, e⟩ := rg_nI (rg_mono hy (by decide) (Int.le_refl _))
  have h0 := hy.1
  rw [e, nI_toInt b2] at h0
  rw [e, pk_div a2 (by omega) b2]
  have l : i / j ≤ i := Nat.div_le_self i j
  generalize i / j = k at l ⊢
  exact rg_ofN (by omega) (by omega) (by omega)
theorem rg_rem {b d : Int} {x y : Int32} (hx : rg 0 b x) (hy : rg 1 d y) : rg 0 (min b (d - 1)) (x - x / y * y) := by
  obtain ⟨i, a1, a2, rfl⟩ := rg_nI hx
  obtain ⟨j, b1, b2, e⟩ := rg_nI (rg_mono hy (by decide) (Int.le_refl _))
  have h0 := hy.1
  rw [e, nI_toInt b2] at h0
  rw [e, pk_rem a2 (by omega) b2]
  have l : i % j < j := Nat.mod_lt i (by omega)
  have l2 : i % j ≤ i := Nat.mod_le i j
  exact rg_ofN (by omega) (by omega) (by omega)
theorem rg_abs {a b c : Int} {x : Int32} (hx : rg a b x) (h : a = -c ∧ b ≤ c ∨ b = c ∧ -c ≤ a) (hc : c ≤ 2147483647) : rg 0 c (if 0 ≤ x then x else 0 - x) := by
  obtain ⟨p1, p2⟩ := hx
  have z0 : (0 : Int32).toInt = 0 := by decide
  split <;> rename_i hh <;> rw [fa_le, z0] at hh
  · exact ⟨by omega, by omega⟩
  · have e := rg_subQ (rg_k z0) (rg_k (x := x) rfl) (by omega) (by omega)
    exact ⟨by rw [e, z0]; omega, by rw [e, z0]; omega⟩
theorem rg_remS {d : Int} {x y : Int32} (hy : rg 1 d y) : rg (-(d - 1)) (d - 1) (x - x / y * y) := by
  obtain ⟨q1, q2⟩ := hy
  have hx := rg_any x
  have hy' := rg_any y
  have el : Int.tmod x.toInt y.toInt = x.toInt - Int.tdiv x.toInt y.toInt * y.toInt := by
    rw [Int.tmod_def, Int.mul_comm]
  have m1 : Int.tmod x.toInt y.toInt < y.toInt := Int.tmod_lt_of_pos _ (by omega)
  have m2 : -y.toInt < Int.tmod x.toInt y.toInt := by
    rcases Int.lt_or_le x.toInt 0 with hn | hn
    · have t := Int.tmod_lt_of_pos (-x.toInt) (b := y.toInt) (by omega)
      rw [Int.neg_tmod] at t
      omega
    · have t := Int.tmod_nonneg y.toInt hn
      omega
  have qb : -2147483648 ≤ Int.tdiv x.toInt y.toInt ∧ Int.tdiv x.toInt y.toInt ≤ 2147483647 := by
    have t : (Int.tdiv x.toInt y.toInt).natAbs ≤ x.toInt.natAbs := by rw [Int.natAbs_tdiv]; exact Nat.div_le_self _ _
    have t1 := hx.1
    have t2 := hx.2
    rcases Int.lt_or_le x.toInt 0 with hn | hn
    · have s1 : Int.tdiv x.toInt y.toInt ≤ 0 := by
        have u := Int.tdiv_nonneg (a := -x.toInt) (b := y.toInt) (by omega) (by omega)
        rw [Int.neg_tdiv] at u
        omega
      omega
    · have s1 := Int.tdiv_nonneg (a := x.toInt) (b := y.toInt) (by omega) (by omega)
      omega
  have e1 : (x / y).toInt = Int.tdiv x.toInt y.toInt := by
    rw [Int32.toInt_div]
    exact Int.bmod_eq_of_le (by omega) (by omega)
  have hx1 := hx.1
  have hx2 := hx.2
  have sg : 0 ≤ x.toInt → 0 ≤ Int.tmod x.toInt y.toInt := fun h => Int.tmod_nonneg y.toInt h
  have sg2 : x.toInt ≤ 0 → Int.tmod x.toInt y.toInt ≤ 0 := fun h => by
    have t := Int.tmod_nonneg (a := -x.toInt) y.toInt (by omega)
    rw [Int.neg_tmod] at t
    omega
  have ab : (Int.tmod x.toInt y.toInt).natAbs ≤ x.toInt.natAbs := by rw [Int.natAbs_tmod]; exact Nat.mod_le _ _
  have e2 : (x / y * y).toInt = Int.tdiv x.toInt y.toInt * y.toInt := by
    rw [Int32.toInt_mul, e1]
    exact Int.bmod_eq_of_le (by omega) (by omega)
  have e3 : (x - x / y * y).toInt = Int.tmod x.toInt y.toInt := by
    rw [Int32.toInt_sub, e2, el]
    exact Int.bmod_eq_of_le (by omega) (by omega)
  exact ⟨by rw [e3]; omega, by rw [e3]; omega⟩
def us (x s : Int32) : Int32 := (x.toUInt32 >>> (s.toUInt32 &&& Int32.toUInt32 31)).toInt32
def bc1 (x : Int32) : Int32 := x - (us x 1 &&& 1431655765)
def bc2 (x : Int32) : Int32 := (x &&& 858993459) + (us x 2 &&& 858993459)
def bc3 (x : Int32) : Int32 := (x + us x 4) &&& 252645135
def bcE (x : Int32) : Int32 := let a := bc3 (bc2 (bc1 x)); let b := a + us a 8; (b + us b 16) &&& 63
theorem bc_all : ∀ j, j < 512 → (0 : Int32) ≤ bcE (nI j) ∧ bcE (nI j) ≤ 9 ∧ (bcE (nI j) ≤ 8 ∨ j = 511) := by decide +kernel
theorem bc_9 {x : Int32} (h : rg 0 511 x) : rg 0 9 (bcE x) ∧ (rg 0 8 (bcE x) → rg 0 510 x) := by
  obtain ⟨j, h1, h2, rfl⟩ := rg_nI h
  obtain ⟨a, b, c⟩ := bc_all j (by omega)
  rw [fa_le, (by decide : (0 : Int32).toInt = 0)] at a
  rw [fa_le, (by decide : (9 : Int32).toInt = 9)] at b
  refine ⟨⟨a, b⟩, fun hh => ?_⟩
  rcases c with c | c
  · refine rg_ofN h2 (by omega) ?_
    rcases Nat.lt_or_ge j 511 with q | q
    · omega
    · have : j = 511 := by omega
      subst this
      exact absurd c (by decide +kernel)
  · subst c
    exact absurd hh.2 (by decide +kernel)
theorem bc_8 {x : Int32} (h : rg 0 510 x) : rg 0 8 (bcE x) := by
  obtain ⟨j, h1, h2, rfl⟩ := rg_nI h
  obtain ⟨a, b, c⟩ := bc_all j (by omega)
  rw [fa_le, (by decide : (0 : Int32).toInt = 0)] at a
  rcases c with c | c
  · rw [fa_le, (by decide : (8 : Int32).toInt = 8)] at c
    exact ⟨a, c⟩
  · omega
section WK2
variable {p : Program} {l : Launch} {e : Env} {R : Room} {s : State} {m : MethodId} {args : Array Value} {below : List Frame} {meth : Method} {c : Code} {cells slots : Nat} {Q : State → Prop}
theorem W_loopM {σ : Type} (Inv : σ → Heap → List Loc → Array Slot → Prop) (μ : σ → Nat) (pc : Nat) (st : List Value)
    (hs : ∀ (u : σ) (H : Heap) (locs : List Loc) (ls : Array Slot), Inv u H locs ls → (∀ (v : σ) (H : Heap) (locs : List Loc) (ls : Array Slot), Inv v H locs ls → μ v < μ u → W p l e R s m args below meth c H locs cells slots Q (F0 m pc ls st)) → W p l e R s m args below meth c H locs cells slots Q (F0 m pc ls st)) :
    ∀ (u : σ) (H : Heap) (locs : List Loc) (ls : Array Slot), Inv u H locs ls → W p l e R s m args below meth c H locs cells slots Q (F0 m pc ls st) := by
  have key : ∀ (n : Nat) (u : σ) (H : Heap) (locs : List Loc) (ls : Array Slot), μ u < n → Inv u H locs ls → W p l e R s m args below meth c H locs cells slots Q (F0 m pc ls st) := by
    intro n
    induction n with
    | zero => intro u H locs ls h _; omega
    | succ n ih => intro u H locs ls h hI; exact hs u H locs ls hI (fun v H locs ls hv hm => ih v H locs ls (by omega) hv)
  intro u H locs ls hI
  exact key (μ u + 1) u H locs ls (by omega) hI
end WK2
