theorem sm31 : ∀ i, i < 31 → ((nI i &&& 31).toBitVec.smod 32).toNat = i := by decide +kernel
theorem bit_bv (x : Int32) (i : Nat) (hi : i < 31) : ((x >>> (nI i &&& 31)) &&& 1).toBitVec = if x.toBitVec.getLsbD i then 1#32 else 0#32 := by
  have e : (x >>> (nI i &&& 31)).toBitVec = x.toBitVec.sshiftRight i := by
    rw [Int32.toBitVec_shiftRight]
    show x.toBitVec.sshiftRight ((nI i &&& 31).toBitVec.smod 32).toNat = _
    rw [sm31 i hi]
  rw [Int32.toBitVec_and, e]
  apply BitVec.eq_of_getLsbD_eq
  intro j hj
  rw [BitVec.getLsbD_and, BitVec.getLsbD_sshiftRight]
  by_cases h0 : j = 0
  · subst h0
    have h33 : ¬ 32 ≤ i := by omega
    have h34 : i < 32 := by omega
    cases hb : x.toBitVec.getLsbD i <;> simp [hb, h33, h34]
  · have z1 : (Int32.toBitVec 1).getLsbD j = false := by
      have : (Int32.toBitVec 1) = 1#32 := by decide
      rw [this, BitVec.getLsbD_one]
      simp [h0]
    rw [z1, Bool.and_false]
    split <;> simp [h0]
theorem bit_1 {x : Int32} {i : Nat} (hi : i < 31) (h : (x >>> (nI i &&& 31)) &&& 1 = 1) : x.toBitVec.getLsbD i = true := by
  have e := bit_bv x i hi
  rw [h] at e
  cases hb : x.toBitVec.getLsbD i
  · rw [hb] at e
    exact absurd e (by decide)
  · rfl
theorem bit_0 {x : Int32} {i : Nat} (hi : i < 31) (h : x.toBitVec.getLsbD i = false) : (x >>> (nI i &&& 31)) &&& 1 = 0 := by
  have e := bit_bv x i hi
  rw [h] at e
  apply Int32.toBitVec_inj.mp
  rw [e]
  rfl
theorem bit_off {x p o : Int32} {i : Nat} (hi : i < 31) (ho : o = x &&& (p ^^^ (-1))) (h : (o >>> (nI i &&& 31)) &&& 1 = 1) : (p >>> (nI i &&& 31)) &&& 1 = 0 := by
  have b := bit_1 hi h
  apply bit_0 hi
  rw [ho, Int32.toBitVec_and, BitVec.getLsbD_and, Int32.toBitVec_xor, BitVec.getLsbD_xor] at b
  have z : (Int32.toBitVec (-1)).getLsbD i = true := by
    have : Int32.toBitVec (-1) = BitVec.allOnes 32 := by decide
    rw [this, BitVec.getLsbD_allOnes]
    simp; omega
  rw [z] at b
  cases hb : p.toBitVec.getLsbD i
  · rfl
  · rw [hb] at b
    simp at b
theorem bc_or : ∀ j, j < 512 → ∀ i, i < 9 → (nI j >>> (nI i &&& 31)) &&& 1 = 0 → bcE (nI j ||| ((1 : Int32) <<< (nI i &&& 31))) = bcE (nI j) + 1 := by decide +kernel
theorem bc_one : ∀ i, i < 9 → bcE ((1 : Int32) <<< (nI i &&& 31)) = 1 := by decide +kernel
theorem bc_1 {h : Int32} (hh : rg 0 8 h) : bcE ((1 : Int32) <<< (h &&& 31)) = 1 := by
  obtain ⟨i, h1, h2, rfl⟩ := rg_nI hh
  exact bc_one i (by omega)
theorem bc_step {p h o x k k' : Int32} (hp : rg 0 511 p) (hh : rg 0 8 h) (ho : o = x &&& (p ^^^ (-1))) (hb : (o >>> (h &&& 31)) &&& 1 = 1) (hk : bcE p = k) (hk' : k + 1 = k') : bcE (p ||| ((1 : Int32) <<< (h &&& 31))) = k' := by
  obtain ⟨j, a1, a2, rfl⟩ := rg_nI hp
  obtain ⟨i, h1, h2, rfl⟩ := rg_nI hh
  rw [bc_or j (by omega) i (by omega) (bit_off (by omega) ho hb), hk, hk']
/-- four bits a place: each at most 8 -/
def nb (x : Int32) : Prop := ∀ j : Nat, j < 9 → rg 0 8 (us x (nI (4 * j)) &&& 15)
def nbA (f : Nat → Int32) : Prop := ∀ j, nb (f j)
/-- k places, each at most 8, nothing above them -/
def nbN : Nat → Nat → Prop
  | 0, x => x = 0
  | k + 1, x => x % 16 ≤ 8 ∧ nbN k (x / 16)
def nbk (k : Nat) (x : Int32) : Prop := ∃ n, n < 2 ^ 31 ∧ x = nI n ∧ nbN k n
theorem nbN_lt : ∀ (k x : Nat), nbN k x → x < 16 ^ k := by
  intro k
  induction k with
  | zero => intro x h; have : x = 0 := h; subst this; decide
  | succ k ih =>
    intro x h
    have := ih _ h.2
    rw [Nat.pow_succ]
    omega
theorem nbN_dig : ∀ (k x j : Nat), nbN k x → x / 16 ^ j % 16 ≤ 8 := by
  intro k
  induction k with
  | zero => intro x j h; have : x = 0 := h; subst this; simp
  | succ k ih =>
    intro x j h
    cases j with
    | zero => simpa using h.1
    | succ j =>
      have := ih _ j h.2
      rw [Nat.div_div_eq_div_mul] at this
      rw [Nat.pow_succ, Nat.mul_comm]
      exact this
theorem nbN_step : ∀ (k x h : Nat), nbN k x → h ≤ 8 → nbN (k + 1) (x + h * 16 ^ k) := by
  intro k
  induction k with
  | zero => intro x h hx hh; have : x = 0 := hx; subst this; exact ⟨by simp; omega, by show (0 + h * 16 ^ 0) / 16 = 0; simp; omega⟩
  | succ k ih =>
    intro x h hx hh
    have e : x + h * 16 ^ (k + 1) = x + 16 * (h * 16 ^ k) := by rw [Nat.pow_succ]; ac_rfl
    rw [e]
    refine ⟨by have := hx.1; omega, ?_⟩
    have d : (x + 16 * (h * 16 ^ k)) / 16 = x / 16 + h * 16 ^ k := by omega
    rw [d]
    exact ih _ _ hx.2 hh
theorem sh4 : ∀ j, j < 9 → (((nI (4 * j)).toUInt32 &&& Int32.toUInt32 31).toBitVec % 32).toNat = 4 * j % 32 := by decide +kernel
theorem nb_of {k : Nat} {x : Int32} (h : nbk k x) : nb x := by
  obtain ⟨n, hn, rfl, hb⟩ := h
  intro j hj
  unfold us
  rw [pk_ushrN (by omega) (nI (4 * j)) (4 * j % 32) (sh4 j hj)]
  have e : nI (n / 2 ^ (4 * j % 32)) &&& 15 = nI (n / 2 ^ (4 * j % 32) % 16) := by
    have l : n / 2 ^ (4 * j % 32) ≤ n := Nat.div_le_self _ _
    have a := rg_bv (x := nI (n / 2 ^ (4 * j % 32)) &&& 15) (n := n / 2 ^ (4 * j % 32) % 16) (by
      rw [Int32.toBitVec_and, BitVec.toNat_and, pk_tn (by omega)]
      exact Nat.and_two_pow_sub_one_eq_mod _ 4) (by omega)
    exact a
  rw [e]
  have q : 2 ^ (4 * j % 32) = 16 ^ (j % 8) := by
    have : 4 * j % 32 = 4 * (j % 8) := by omega
    rw [this, Nat.pow_mul]
  rw [q]
  have := nbN_dig k n (j % 8) hb
  generalize n / 16 ^ (j % 8) % 16 = w at this ⊢
  exact rg_ofN (by omega) (by omega) (by omega)
theorem nb_at {x p : Int32} (h : nb x) (hp : rg 0 8 p) : rg 0 8 ((x.toUInt32 >>> ((4 * p).toUInt32 &&& Int32.toUInt32 31)).toInt32 &&& 15) := by
  obtain ⟨j, h1, h2, rfl⟩ := rg_nI hp
  have e : (4 : Int32) * nI j = nI (4 * j) := by
    have : ∀ j, j < 9 → (4 : Int32) * nI j = nI (4 * j) := by decide +kernel
    exact this j (by omega)
  rw [e]
  exact h j (by omega)
theorem nb_z : nb 0 := nb_of (k := 0) ⟨0, by decide, rfl, rfl⟩
theorem nbk_1 {h : Int32} (hh : rg 0 8 h) : nbk 1 h := by
  obtain ⟨i, h1, h2, rfl⟩ := rg_nI hh
  exact ⟨i, h2, rfl, by show i % 16 ≤ 8 ∧ i / 16 = 0; omega⟩
theorem shl4 : ∀ i, i < 9 → ∀ k, k < 7 → (nI i) <<< (nI (4 * k) &&& 31) = nI (i * 16 ^ k) := by decide +kernel
theorem or_add {x h k : Nat} (hx : x < 16 ^ k) : x ||| h * 16 ^ k = x + h * 16 ^ k := by
  have e : 16 ^ k = 2 ^ (4 * k) := by rw [Nat.pow_mul]
  rw [e] at hx ⊢
  rw [Nat.or_comm, Nat.mul_comm, ← Nat.two_pow_add_eq_or_of_lt hx]
  omega
theorem nbk_step (k : Nat) {x h s : Int32} (hx : nbk k x) (hh : rg 0 8 h) (hk : k < 7) (hs : s = nI (4 * k)) : nbk (k + 1) (x ||| (h <<< (s &&& 31))) := by
  obtain ⟨n, hn, rfl, hb⟩ := hx
  obtain ⟨i, h1, h2, rfl⟩ := rg_nI hh
  rw [hs, shl4 i (by omega) k hk]
  have l := nbN_lt k n hb
  have q : 16 ^ k * 16 ≤ 16 ^ 7 := by
    have := Nat.pow_le_pow_right (n := 16) (by decide) (show k + 1 ≤ 7 by omega)
    rwa [Nat.pow_succ] at this
  have b2 : i * 16 ^ k ≤ 8 * 16 ^ k := Nat.mul_le_mul_right _ (by omega)
  have t : 16 ^ 7 = 268435456 := by decide
  have e : (nI n ||| nI (i * 16 ^ k)).toBitVec.toNat = n + i * 16 ^ k := by
    rw [Int32.toBitVec_or, BitVec.toNat_or, pk_tn (by omega), pk_tn (by omega)]
    exact or_add l
  refine ⟨n + i * 16 ^ k, by omega, rg_bv e (by omega), nbN_step k n i hb (by omega)⟩
theorem nbA_upd {f g : Nat → Int32} {k : Nat} {x : Int32} (h : nbA f) (hx : nb x) (e : g = upd f k x) : nbA g := by
  intro j
  rw [e]
  by_cases q : j = k
  · subst q
    rw [pk_us]
    exact hx
  · rw [pk_un q]
    exact h j
