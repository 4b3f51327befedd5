/-! sets of pairs: how many there can be -/
def ioF (o p : Int32) : Int32 := if (o >>> (p &&& 31)) &&& 1 = 1 then 1 else 0
theorem io_y {o p z : Int32} (hz : z = (o >>> (p &&& 31)) &&& 1) (h : z = 1) : (1 : Int32) = ioF o p := by
  unfold ioF
  rw [← hz, if_pos h]
theorem io_n {o p z : Int32} (hz : z = (o >>> (p &&& 31)) &&& 1) (h : ¬ z = 1) : (0 : Int32) = ioF o p := by
  unfold ioF
  rw [← hz, if_neg h]
def rkG (o : Int32) : Nat → Int32
  | 0 => 0
  | k + 1 => rkG o k + if ioF o (nI k) = 1 then 0 else 1
theorem rk_0 (o : Int32) : (0 : Int32) = rkG o (0 : Int32).toNatClampNeg := by
  rw [(by decide : (0 : Int32).toNatClampNeg = 0)]
  rfl
theorem rk_s {o n n' k k' v r : Int32} (h : n = rkG o k.toNatClampNeg) (hk : rg 0 9 k) (hr : r = ioF o k) (hv : r = 1 ∧ v = 0 ∨ r = 0 ∧ v = 1) (hn : n' = n + v) (hk' : k'.toInt = k.toInt + 1) : n' = rkG o k'.toNatClampNeg := by
  obtain ⟨j, h2, rfl, _, b2⟩ := rg_nat hk (by decide)
  rw [nI_toInt h2] at hk'
  have e : k' = nI (j + 1) := cl_nI (by omega) (by omega)
  rw [nI_clamp h2] at h
  rw [e, nI_clamp (by omega), hn, h]
  show rkG o j + v = rkG o j + if ioF o (nI j) = 1 then 0 else 1
  rw [← hr]
  rcases hv with ⟨h1, h3⟩ | ⟨h1, h3⟩
  · rw [if_pos h1, h3]
  · rw [if_neg (by rw [h1]; decide), h3]
theorem rk_e {o n k p : Int32} (h : n = rkG o k.toNatClampNeg) (h1 : k.toInt ≤ p.toInt) (h2 : p.toInt ≤ k.toInt) : n = rkG o p.toNatClampNeg := by
  have : k = p := (fa_eq _ _).mpr (by omega)
  rw [← this]
  exact h
def pbF (a b : Int32) : Int32 := if a < b then (1 : Int32) <<< ((b * (b - 1) / 2 + a) &&& 31) else (1 : Int32) <<< ((a * (a - 1) / 2 + b) &&& 31)
theorem pb_lt {a b : Int32} (h : a < b) : pbF a b = (1 : Int32) <<< ((b * (b - 1) / 2 + a) &&& 31) := by
  unfold pbF
  rw [if_pos h]
theorem pb_ge {a b : Int32} (h : ¬ a < b) : pbF a b = (1 : Int32) <<< ((a * (a - 1) / 2 + b) &&& 31) := by
  unfold pbF
  rw [if_neg h]
theorem pb_symm (a b : Int32) : pbF a b = pbF b a := by
  by_cases h : a < b
  · have h2 : ¬ b < a := by rw [fa_lt] at h ⊢; omega
    rw [pb_lt h, pb_ge h2]
  · by_cases h2 : b < a
    · rw [pb_ge h, pb_lt h2]
    · have : a = b := (fa_eq _ _).mpr (by rw [fa_lt] at h h2; omega)
      rw [this]
def rfF (x n : Int32) : Int32 := if x = 0 then (if 2 < n then 1 else 0) else 0
theorem rf_s {x n : Int32} (h : ¬ x = 0) : (0 : Int32) = rfF x n := by
  unfold rfF
  rw [if_neg h]
theorem rf_1 {x n : Int32} (h : x = 0) (hn : 2 < n.toInt) : (1 : Int32) = rfF x n := by
  unfold rfF
  rw [if_pos h, if_pos (by rw [fa_lt, (by decide : (2 : Int32).toInt = 2)]; exact hn)]
theorem rf_0 {x n : Int32} (h : x = 0) (hn : n.toInt ≤ 2) : (0 : Int32) = rfF x n := by
  unfold rfF
  rw [if_pos h, if_neg (by rw [fa_lt, (by decide : (2 : Int32).toInt = 2)]; omega)]
def psG (f : Nat → Int32) (o n r : Int32) : Nat → Int32
  | 0 => 0
  | p + 1 => if nI (p + 1) < n then psG f o n r p ||| pbF (rkG o (f p).toNatClampNeg) (rkG o (f (p + 1)).toNatClampNeg) else if r = 1 then psG f o n r p ||| pbF (rkG o (f p).toNatClampNeg) (rkG o (f 0).toNatClampNeg) else psG f o n r p
def pkG (f : Nat → Int32) : Nat → Int32
  | 0 => 0
  | p + 1 => pkG f p ||| (f p <<< ((4 * nI p) &&& 31))
def cw (f : Nat → Int32) (o n r s k p : Int32) : Prop := s = psG f o n r p.toNatClampNeg ∧ k = pkG f p.toNatClampNeg
theorem cw_0 (f : Nat → Int32) (o n r : Int32) : cw f o n r 0 0 0 := by
  unfold cw
  rw [(by decide : (0 : Int32).toNatClampNeg = 0)]
  exact ⟨rfl, rfl⟩
theorem cw_1 {f : Nat → Int32} {o n r s s' k k' p p' z x y a b : Int32} (h : cw f o n r s k p) (hp : rg 0 8 p) (hp' : p'.toInt = p.toInt + 1) (hz : z.toInt = p.toInt + 1) (hl : z.toInt < n.toInt) (hx : x = f p.toNatClampNeg) (hy : y = f z.toNatClampNeg) (ha : a = rkG o x.toNatClampNeg) (hb : b = rkG o y.toNatClampNeg) (hs : s' = s ||| pbF a b) (hk : k' = k ||| (x <<< ((4 * p) &&& 31))) : cw f o n r s' k' p' := by
  obtain ⟨j, h2, rfl, _, b2⟩ := rg_nat hp (by decide)
  rw [nI_toInt h2] at hp' hz
  have e : p' = nI (j + 1) := cl_nI (by omega) (by omega)
  have e2 : z = nI (j + 1) := cl_nI (by omega) (by omega)
  obtain ⟨h1, h3⟩ := h
  rw [nI_clamp h2] at h1 h3 hx
  rw [e2, nI_clamp (by omega)] at hy
  unfold cw
  rw [e, nI_clamp (by omega)]
  constructor
  · show s' = if nI (j + 1) < n then psG f o n r j ||| pbF (rkG o (f j).toNatClampNeg) (rkG o (f (j + 1)).toNatClampNeg) else _
    rw [if_pos (by rw [fa_lt, ← e2]; exact hl), hs, h1, ha, hb, hx, hy]
  · show k' = pkG f j ||| (f j <<< ((4 * nI j) &&& 31))
    rw [hk, h3, hx]
theorem cw_2 {f : Nat → Int32} {o n r s s' k k' p p' z x y a b : Int32} (h : cw f o n r s k p) (hp : rg 0 8 p) (hp' : p'.toInt = p.toInt + 1) (hz : z.toInt = p.toInt + 1) (hl : n.toInt ≤ z.toInt) (hr : (1 : Int32) = r) (hx : x = f p.toNatClampNeg) (hy : y = f 0) (ha : a = rkG o x.toNatClampNeg) (hb : b = rkG o y.toNatClampNeg) (hs : s' = s ||| pbF a b) (hk : k' = k ||| (x <<< ((4 * p) &&& 31))) : cw f o n r s' k' p' := by
  obtain ⟨j, h2, rfl, _, b2⟩ := rg_nat hp (by decide)
  rw [nI_toInt h2] at hp' hz
  have e : p' = nI (j + 1) := cl_nI (by omega) (by omega)
  have e2 : z = nI (j + 1) := cl_nI (by omega) (by omega)
  obtain ⟨h1, h3⟩ := h
  rw [nI_clamp h2] at h1 h3 hx
  unfold cw
  rw [e, nI_clamp (by omega)]
  constructor
  · show s' = if nI (j + 1) < n then _ else if r = 1 then psG f o n r j ||| pbF (rkG o (f j).toNatClampNeg) (rkG o (f 0).toNatClampNeg) else _
    rw [if_neg (by rw [fa_lt, ← e2]; omega), if_pos hr.symm, hs, h1, ha, hb, hx, hy]
  · show k' = pkG f j ||| (f j <<< ((4 * nI j) &&& 31))
    rw [hk, h3, hx]
theorem cw_3 {f : Nat → Int32} {o n r s k k' p p' z x : Int32} (h : cw f o n r s k p) (hp : rg 0 8 p) (hp' : p'.toInt = p.toInt + 1) (hz : z.toInt = p.toInt + 1) (hl : n.toInt ≤ z.toInt) (hr : (0 : Int32) = r) (hx : x = f p.toNatClampNeg) (hk : k' = k ||| (x <<< ((4 * p) &&& 31))) : cw f o n r s k' p' := by
  obtain ⟨j, h2, rfl, _, b2⟩ := rg_nat hp (by decide)
  rw [nI_toInt h2] at hp' hz
  have e : p' = nI (j + 1) := cl_nI (by omega) (by omega)
  have e2 : z = nI (j + 1) := cl_nI (by omega) (by omega)
  obtain ⟨h1, h3⟩ := h
  rw [nI_clamp h2] at h1 h3 hx
  unfold cw
  rw [e, nI_clamp (by omega)]
  constructor
  · show s = if nI (j + 1) < n then _ else if r = 1 then _ else psG f o n r j
    rw [if_neg (by rw [fa_lt, ← e2]; omega), if_neg (by rw [← hr]; decide), h1]
  · show k' = pkG f j ||| (f j <<< ((4 * nI j) &&& 31))
    rw [hk, h3, hx]
/-! ranks -/
def rkN (k a : Nat) : Nat := a - popG k a
theorem rk_all : ∀ k, k < 512 → ∀ a, a < 10 → rkG (nI k) a = nI (rkN k a) := by decide +kernel
theorem rk_lt : ∀ w, w < 10 → ∀ k, k < 2 ^ w → ∀ a, a < w → k / 2 ^ a % 2 = 0 → rkN k a < w - popG k 9 := by decide +kernel
theorem rk_mono : ∀ k, k < 512 → ∀ a, a < 9 → ∀ b, b < a → k / 2 ^ b % 2 = 0 → rkN k b < rkN k a := by decide +kernel
/-! orders of seven, told by their ends and by what is between -/
def bl (x y : Nat) : Nat := if x < y then 1 else 0
def code7 (a b c d e f g : Nat) : Nat := (g * (g - 1) / 2 + a) * 120 + (b - bl a b - bl g b) * 24 + (c - bl a c - bl g c - bl b c) * 6 + (d - bl a d - bl g d - bl b d - bl c d) * 2 + (e - bl a e - bl g e - bl b e - bl c e - bl d e)
def nthF (ex : List Nat) : Nat → Nat → Nat → Nat
  | 0, _, _ => 0
  | q + 1, x, k => if ex.contains x then nthF ex q (x + 1) k else if k = 0 then x else nthF ex q (x + 1) (k - 1)
def hiF (p : Nat) : Nat := if p < 1 then 1 else if p < 3 then 2 else if p < 6 then 3 else if p < 10 then 4 else if p < 15 then 5 else 6
def dec7 (n : Nat) : List Nat :=
  let p := n / 120
  let g := hiF p
  let a := p - g * (g - 1) / 2
  let b := nthF [a, g] 8 0 (n / 24 % 5)
  let c := nthF [a, g, b] 8 0 (n / 6 % 4)
  let d := nthF [a, g, b, c] 8 0 (n / 2 % 3)
  let e := nthF [a, g, b, c, d] 8 0 (n % 2)
  let f := nthF [a, g, b, c, d, e] 8 0 0
  [a, b, c, d, e, f, g]
def all7 (p : Nat → Bool) : Bool := p 0 && p 1 && p 2 && p 3 && p 4 && p 5 && p 6
theorem all7_at {p : Nat → Bool} (h : all7 p = true) (i : Nat) (hi : i < 7) : p i = true := by
  unfold all7 at h
  simp only [Bool.and_eq_true] at h
  obtain ⟨⟨⟨⟨⟨⟨h0, h1⟩, h2⟩, h3⟩, h4⟩, h5⟩, h6⟩ := h
  match i, hi with
  | 0, _ => exact h0
  | 1, _ => exact h1
  | 2, _ => exact h2
  | 3, _ => exact h3
  | 4, _ => exact h4
  | 5, _ => exact h5
  | 6, _ => exact h6
def impB (b x : Bool) : Bool := match b with
  | true => x
  | false => true
theorem impB_at {b x : Bool} (h : impB b x = true) (hb : b = true) : x = true := by
  subst hb
  exact h
def ne7 (x : Nat) (l : List Nat) : Bool := !(l.contains x)
def chk7 : Bool := all7 fun a => all7 fun g => impB (decide (a < g)) (all7 fun b => impB (ne7 b [a, g]) (all7 fun c => impB (ne7 c [a, g, b]) (all7 fun d => impB (ne7 d [a, g, b, c]) (all7 fun e => impB (ne7 e [a, g, b, c, d]) (all7 fun f => impB (ne7 f [a, g, b, c, d, e]) (decide (code7 a b c d e f g < 2520) && decide (dec7 (code7 a b c d e f g) = [a, b, c, d, e, f, g])))))))
set_option maxRecDepth 100000 in
theorem chk7_ok : chk7 = true := by decide +kernel
theorem perm7 : ∀ a, a < 7 → ∀ g, g < 7 → a < g → ∀ b, b < 7 → b ≠ a → b ≠ g → ∀ c, c < 7 → c ≠ a → c ≠ g → c ≠ b → ∀ d, d < 7 → d ≠ a → d ≠ g → d ≠ b → d ≠ c → ∀ e, e < 7 → e ≠ a → e ≠ g → e ≠ b → e ≠ c → e ≠ d → ∀ f, f < 7 → f ≠ a → f ≠ g → f ≠ b → f ≠ c → f ≠ d → f ≠ e → code7 a b c d e f g < 2520 ∧ dec7 (code7 a b c d e f g) = [a, b, c, d, e, f, g] := by
  intro a ha g hg hag b hb b1 b2 c hc c1 c2 c3 d hd d1 d2 d3 d4 e he e1 e2 e3 e4 e5 f hf f1 f2 f3 f4 f5 f6
  have k := impB_at (all7_at (all7_at chk7_ok a ha) g hg) (decide_eq_true hag)
  have k := impB_at (all7_at k b hb) (by simp [ne7, b1, b2])
  have k := impB_at (all7_at k c hc) (by simp [ne7, c1, c2, c3])
  have k := impB_at (all7_at k d hd) (by simp [ne7, d1, d2, d3, d4])
  have k := impB_at (all7_at k e he) (by simp [ne7, e1, e2, e3, e4, e5])
  have k := impB_at (all7_at k f hf) (by simp [ne7, f1, f2, f3, f4, f5, f6])
  rw [Bool.and_eq_true] at k
  exact ⟨of_decide_eq_true k.1, of_decide_eq_true k.2⟩
def cd7 (r : Nat → Nat) : Nat := if r 0 < r 6 then code7 (r 0) (r 1) (r 2) (r 3) (r 4) (r 5) (r 6) else code7 (r 6) (r 5) (r 4) (r 3) (r 2) (r 1) (r 0)
def pm7 (r : Nat → Nat) : Prop := (∀ i, i < 7 → r i < 7) ∧ ∀ i j, i < j → j < 7 → r i ≠ r j
theorem cd7_ok {r : Nat → Nat} (h : pm7 r) : cd7 r < 2520 ∧ (dec7 (cd7 r) = [r 0, r 1, r 2, r 3, r 4, r 5, r 6] ∨ dec7 (cd7 r) = [r 6, r 5, r 4, r 3, r 2, r 1, r 0]) := by
  obtain ⟨a, b⟩ := h
  have n : ∀ i j, i < 7 → j < 7 → i ≠ j → r i ≠ r j := by
    intro i j hi hj hij
    rcases Nat.lt_or_gt_of_ne hij with q | q
    · exact b i j q hj
    · exact fun e => b j i q hi e.symm
  unfold cd7
  by_cases q : r 0 < r 6
  · rw [if_pos q]
    have p := perm7 (r 0) (a 0 (by decide)) (r 6) (a 6 (by decide)) q (r 1) (a 1 (by decide)) (n 1 0 (by decide) (by decide) (by decide)) (n 1 6 (by decide) (by decide) (by decide)) (r 2) (a 2 (by decide)) (n 2 0 (by decide) (by decide) (by decide)) (n 2 6 (by decide) (by decide) (by decide)) (n 2 1 (by decide) (by decide) (by decide)) (r 3) (a 3 (by decide)) (n 3 0 (by decide) (by decide) (by decide)) (n 3 6 (by decide) (by decide) (by decide)) (n 3 1 (by decide) (by decide) (by decide)) (n 3 2 (by decide) (by decide) (by decide)) (r 4) (a 4 (by decide)) (n 4 0 (by decide) (by decide) (by decide)) (n 4 6 (by decide) (by decide) (by decide)) (n 4 1 (by decide) (by decide) (by decide)) (n 4 2 (by decide) (by decide) (by decide)) (n 4 3 (by decide) (by decide) (by decide)) (r 5) (a 5 (by decide)) (n 5 0 (by decide) (by decide) (by decide)) (n 5 6 (by decide) (by decide) (by decide)) (n 5 1 (by decide) (by decide) (by decide)) (n 5 2 (by decide) (by decide) (by decide)) (n 5 3 (by decide) (by decide) (by decide)) (n 5 4 (by decide) (by decide) (by decide))
    exact ⟨p.1, Or.inl p.2⟩
  · rw [if_neg q]
    have q2 : r 6 < r 0 := by have := n 0 6 (by decide) (by decide) (by decide); omega
    have p := perm7 (r 6) (a 6 (by decide)) (r 0) (a 0 (by decide)) q2 (r 5) (a 5 (by decide)) (n 5 6 (by decide) (by decide) (by decide)) (n 5 0 (by decide) (by decide) (by decide)) (r 4) (a 4 (by decide)) (n 4 6 (by decide) (by decide) (by decide)) (n 4 0 (by decide) (by decide) (by decide)) (n 4 5 (by decide) (by decide) (by decide)) (r 3) (a 3 (by decide)) (n 3 6 (by decide) (by decide) (by decide)) (n 3 0 (by decide) (by decide) (by decide)) (n 3 5 (by decide) (by decide) (by decide)) (n 3 4 (by decide) (by decide) (by decide)) (r 2) (a 2 (by decide)) (n 2 6 (by decide) (by decide) (by decide)) (n 2 0 (by decide) (by decide) (by decide)) (n 2 5 (by decide) (by decide) (by decide)) (n 2 4 (by decide) (by decide) (by decide)) (n 2 3 (by decide) (by decide) (by decide)) (r 1) (a 1 (by decide)) (n 1 6 (by decide) (by decide) (by decide)) (n 1 0 (by decide) (by decide) (by decide)) (n 1 5 (by decide) (by decide) (by decide)) (n 1 4 (by decide) (by decide) (by decide)) (n 1 3 (by decide) (by decide) (by decide)) (n 1 2 (by decide) (by decide) (by decide))
    exact ⟨p.1, Or.inr p.2⟩
theorem l7 {a b : Nat → Nat} (h : [a 0, a 1, a 2, a 3, a 4, a 5, a 6] = [b 0, b 1, b 2, b 3, b 4, b 5, b 6]) : ∀ i, i < 7 → a i = b i := by
  simp only [List.cons.injEq] at h
  obtain ⟨h0, h1, h2, h3, h4, h5, h6, -⟩ := h
  intro i hi
  match i, hi with
  | 0, _ => exact h0
  | 1, _ => exact h1
  | 2, _ => exact h2
  | 3, _ => exact h3
  | 4, _ => exact h4
  | 5, _ => exact h5
  | 6, _ => exact h6
theorem cd7_eq {r r' : Nat → Nat} (h : pm7 r) (h' : pm7 r') (e : cd7 r = cd7 r') : (∀ i, i < 7 → r i = r' i) ∨ (∀ i, i < 7 → r i = r' (6 - i)) := by
  have a := (cd7_ok h).2
  have b := (cd7_ok h').2
  rw [e] at a
  rcases a with a | a <;> rcases b with b | b <;> rw [b] at a
  · exact Or.inl (fun i hi => (l7 a i hi).symm)
  · exact Or.inr (fun i hi => (l7 (a := fun i => r' (6 - i)) (b := r) a i hi).symm)
  · refine Or.inr (fun i hi => ?_)
    have := l7 (a := r') (b := fun i => r (6 - i)) a (6 - i) (by omega)
    have z : 6 - (6 - i) = i := by omega
    simp only [z] at this
    exact this.symm
  · refine Or.inl (fun i hi => ?_)
    have := l7 (a := fun i => r' (6 - i)) (b := fun i => r (6 - i)) a (6 - i) (by omega)
    have z : 6 - (6 - i) = i := by omega
    simp only [z] at this
    exact this.symm
def psR (q : Nat → Nat) (n : Nat) (r : Int32) : Nat → Int32
  | 0 => 0
  | p + 1 => if p + 1 < n then psR q n r p ||| pbF (nI (q p)) (nI (q (p + 1))) else if r = 1 then psR q n r p ||| pbF (nI (q p)) (nI (q 0)) else psR q n r p
theorem psR_congr {q q' : Nat → Nat} {n : Nat} {r : Int32} (h : ∀ i, i < n → q i = q' i) : ∀ p, p ≤ n → psR q n r p = psR q' n r p := by
  intro p
  induction p with
  | zero => intro _; rfl
  | succ p ih =>
    intro hp
    show (if p + 1 < n then psR q n r p ||| pbF (nI (q p)) (nI (q (p + 1))) else if r = 1 then psR q n r p ||| pbF (nI (q p)) (nI (q 0)) else psR q n r p) = (if p + 1 < n then psR q' n r p ||| pbF (nI (q' p)) (nI (q' (p + 1))) else if r = 1 then psR q' n r p ||| pbF (nI (q' p)) (nI (q' 0)) else psR q' n r p)
    rw [ih (by omega), h p (by omega), h 0 (by omega)]
    by_cases z : p + 1 < n
    · rw [if_pos z, if_pos z, h (p + 1) z]
    · rw [if_neg z, if_neg z]
theorem psG_R {f : Nat → Int32} {o r : Int32} {q : Nat → Nat} {n : Nat} (hn : n ≤ 9) (h : ∀ i, i < n → rkG o (f i).toNatClampNeg = nI (q i)) : ∀ p, p ≤ n → psG f o (nI n) r p = psR q n r p := by
  intro p
  induction p with
  | zero => intro _; rfl
  | succ p ih =>
    intro hp
    show (if nI (p + 1) < nI n then psG f o (nI n) r p ||| pbF (rkG o (f p).toNatClampNeg) (rkG o (f (p + 1)).toNatClampNeg) else if r = 1 then psG f o (nI n) r p ||| pbF (rkG o (f p).toNatClampNeg) (rkG o (f 0).toNatClampNeg) else psG f o (nI n) r p) = _
    have c : nI (p + 1) < nI n ↔ p + 1 < n := by rw [fa_lt, nI_toInt (by omega), nI_toInt (by omega)]; omega
    show _ = (if p + 1 < n then psR q n r p ||| pbF (nI (q p)) (nI (q (p + 1))) else if r = 1 then psR q n r p ||| pbF (nI (q p)) (nI (q 0)) else psR q n r p)
    rw [ih (by omega), h p (by omega), h 0 (by omega)]
    by_cases z : p + 1 < n
    · rw [if_pos z, if_pos (c.mpr z), h (p + 1) z]
    · rw [if_neg z, if_neg (fun y => z (c.mp y))]
theorem psR_rev (q : Nat → Nat) (r : Int32) : psR (fun i => q (6 - i)) 7 r 7 = psR q 7 r 7 := by
  simp only [psR, show (0 : Nat) + 1 < 7 by decide, show (1 : Nat) + 1 < 7 by decide, show (2 : Nat) + 1 < 7 by decide, show (3 : Nat) + 1 < 7 by decide, show (4 : Nat) + 1 < 7 by decide, show (5 : Nat) + 1 < 7 by decide, show ¬ (6 : Nat) + 1 < 7 by decide, if_true, if_false, Nat.sub_zero, Nat.sub_self]
  simp only [show 6 - (0 + 1) = 5 by decide, show 6 - 1 = 5 by decide, show 6 - (1 + 1) = 4 by decide, show 6 - 2 = 4 by decide, show 6 - (2 + 1) = 3 by decide, show 6 - 3 = 3 by decide, show 6 - (3 + 1) = 2 by decide, show 6 - 4 = 2 by decide, show 6 - (4 + 1) = 1 by decide, show 6 - 5 = 1 by decide, show 6 - (5 + 1) = 0 by decide, show 6 - 6 = 0 by decide, show (0 : Nat) + 1 = 1 by decide, show (1 : Nat) + 1 = 2 by decide, show (2 : Nat) + 1 = 3 by decide, show (3 : Nat) + 1 = 4 by decide, show (4 : Nat) + 1 = 5 by decide, show (5 : Nat) + 1 = 6 by decide]
  rw [pb_symm (nI (q 6)) (nI (q 5)), pb_symm (nI (q 5)) (nI (q 4)), pb_symm (nI (q 4)) (nI (q 3)), pb_symm (nI (q 3)) (nI (q 2)), pb_symm (nI (q 2)) (nI (q 1)), pb_symm (nI (q 1)) (nI (q 0)), pb_symm (nI (q 0)) (nI (q 6))]
  generalize pbF (nI (q 0)) (nI (q 1)) = v0
  generalize pbF (nI (q 1)) (nI (q 2)) = v1
  generalize pbF (nI (q 2)) (nI (q 3)) = v2
  generalize pbF (nI (q 3)) (nI (q 4)) = v3
  generalize pbF (nI (q 4)) (nI (q 5)) = v4
  generalize pbF (nI (q 5)) (nI (q 6)) = v5
  generalize pbF (nI (q 6)) (nI (q 0)) = v6
  by_cases z : r = 1
  · rw [if_pos z, if_pos z]
    ac_rfl
  · rw [if_neg z, if_neg z]
    ac_rfl
