/-! the reader of texts -/
theorem lc_eq {x y : Int64} {z : Int32} (e : z = lg_cmp x y) (h : z = 0) : x = y := by
  rw [e] at h
  unfold lg_cmp at h
  split at h
  · exact absurd h (by decide)
  · split at h
    · rename_i q
      exact q
    · exact absurd h (by decide)
theorem lc_ne {x y : Int64} {z : Int32} (e : z = lg_cmp x y) (h : ¬ z = 0) : ¬ x = y := by
  intro q
  subst q
  apply h
  rw [e]
  unfold lg_cmp
  by_cases q : x > x
  · exact absurd q (by simp)
  · rw [if_neg q, if_pos rfl]
def tE (a e t z : Int32) : Prop := a.toInt ≤ e.toInt ∧ e.toInt ≤ z.toInt ∧ (¬ t = 0 → a.toInt < e.toInt)
def goA (a0 a1 t0 : Int32) : Prop := a0.toInt ≤ a1.toInt ∧ (¬ t0 = 0 → a0.toInt < a1.toInt)
theorem goA_of {a0 e0 t0 z a1 : Int32} (h : tE a0 e0 t0 z) (h1 : e0.toInt ≤ a1.toInt) : goA a0 a1 t0 := ⟨by have := h.1; omega, fun q => by have := h.2.2 q; omega⟩
/-! what a bank's other one keeps -/
def hk (f g : Nat → Int32) (r : Int32) : Prop := ∀ j : Nat, j ≠ r.toNatClampNeg → g j = f j
theorem hk_r (f : Nat → Int32) (r : Int32) : hk f f r := fun _ _ => rfl
theorem hk_t {f g h : Nat → Int32} {r : Int32} (a : hk f g r) (b : hk g h r) : hk f h r := fun j hj => (b j hj).trans (a j hj)
theorem hk_u {f g : Nat → Int32} {r v : Int32} (e : g = upd f r.toNatClampNeg v) : hk f g r := fun j hj => by rw [e, pk_un hj]
def ck (f g : Nat → Int32) (r : Int32) : Prop := ∀ q j : Nat, q ≤ 1 → j < 500 → ¬ r = nI q → g (500 * q + j) = f (500 * q + j)
theorem ck_r (f : Nat → Int32) (r : Int32) : ck f f r := fun _ _ _ _ _ => rfl
theorem ck_t {f g h : Nat → Int32} {r : Int32} (a : ck f g r) (b : ck g h r) : ck f h r := fun q j h1 h2 h3 => (b q j h1 h2 h3).trans (a q j h1 h2 h3)
theorem bk_ne {b r : Int32} (hb : rg 0 1 b) (e : r = 1 - b) : ¬ b.toNatClampNeg = r.toNatClampNeg := by
  rcases rg_01 hb with rfl | rfl <;> subst e <;> decide
theorem bk_ne2 {b r : Int32} (hb : rg 0 1 b) (e : r = 1 - b) : ¬ r = b := by
  rcases rg_01 hb with rfl | rfl <;> subst e <;> decide
theorem ow_k {g g' : Nat → Int32} {b o : Int32} (h : ow g b o) (e : g' b.toNatClampNeg = g b.toNatClampNeg) : ow g' b o := by
  obtain ⟨n, k, h1, h2, h3, h4⟩ := h
  exact ⟨n, k, h1, by rw [e]; exact h2, h3, h4⟩
theorem dl_k {h : Int32} {f g g' : Nat → Int32} {b o : Int32} (a : dl h f g b o) (e : g' b.toNatClampNeg = g b.toNatClampNeg) : dl h f g' b o := by
  intro q
  have := a q
  unfold mnF at this ⊢
  rw [e]
  exact this
theorem bx_k {y o g g' : Nat → Int32} {b : Int32} (h : bxo y o g b) (e : g' b.toNatClampNeg = g b.toNatClampNeg) : bxo y o g' b := fun j hj h0 => ow_k (h j hj h0) e
theorem gc_k {c c' t t' : Nat → Int32} {b r : Int32} (h : gcd_ c t b) (hc : ck c c' r) (hr : ¬ r = b) (e : t' b.toNatClampNeg = t b.toNatClampNeg) : gcd_ c' t' b := by
  obtain ⟨n, m, h1, h2, h3, h4, h5⟩ := h
  refine ⟨n, m, h1, h2, h3, by rw [e]; exact h4, ?_⟩
  rw [dp_congr m (fun j hj => hc n j h1 (by omega) (by rw [← h2]; exact hr))]
  exact h5
theorem gc_0 {c t : Nat → Int32} {r x : Int32} (hr : rg 0 1 r) (e : t r.toNatClampNeg = x) (hx : x = 500 * r) : gcd_ c t r := by
  obtain ⟨q, h2, rfl, _, b2⟩ := rg_nat hr (by decide)
  have : q ≤ 1 := by omega
  refine ⟨q, 0, this, rfl, by omega, ?_, rfl⟩
  rw [e, hx]
  rcases (show q = 0 ∨ q = 1 by omega) with rfl | rfl <;> decide
def gf (k : Int32) (c t : Nat → Int32) (r : Int32) : Prop := k = 0 → gcd_ c t r
/-! the pile of the law's reader -/
def wn (e : Nat → Int32) : Nat → Nat
  | 0 => 0
  | k + 1 => wn e k + if e k = 3 ∨ e k = 7 then 1 else 0
def okE (x y : Int32) : Prop := rg 1 7 x ∧ (x = 3 → y = 126) ∧ (¬ x = 3 → ¬ x = 7 → ¬ y = 126 ∧ (0 : Int32) = ltF y)
def wt1 (w : Int32) : Nat := if w = 1 then 1 else 0
abbrev pN (e s : Nat → Int32) (P W : Nat) (c : Nat → Int32) (C R U D v : Nat) : Prop := v ≤ 1 ∧ R ≤ 1 ∧ U ≤ 40 ∧ W ≤ 7 ∧ dp c (500 * R) C = some D ∧ D ≤ U ∧ (1 ≤ P → e 0 = 8) ∧ wn e P = W ∧ (∀ k, 1 ≤ k → k < P → okE (e k) (s k)) ∧ (1 ≤ P → P + (1 - v) = D + W + 1) ∧ (1 ≤ P → C + P ≤ 9 * U + v * (W + 1)) ∧ (P = 0 → C ≤ 9 * U)
section PN
variable {e s : Nat → Int32} {P W : Nat} {c : Nat → Int32} {C R U D v : Nat}
theorem pN.hv (n : pN e s P W c C R U D v) : v ≤ 1 := n.1
theorem pN.hR (n : pN e s P W c C R U D v) : R ≤ 1 := n.2.1
theorem pN.hU (n : pN e s P W c C R U D v) : U ≤ 40 := n.2.2.1
theorem pN.hW (n : pN e s P W c C R U D v) : W ≤ 7 := n.2.2.2.1
theorem pN.hd (n : pN e s P W c C R U D v) : dp c (500 * R) C = some D := n.2.2.2.2.1
theorem pN.hD (n : pN e s P W c C R U D v) : D ≤ U := n.2.2.2.2.2.1
theorem pN.h0 (n : pN e s P W c C R U D v) : 1 ≤ P → e 0 = 8 := n.2.2.2.2.2.2.1
theorem pN.hw (n : pN e s P W c C R U D v) : wn e P = W := n.2.2.2.2.2.2.2.1
theorem pN.hs (n : pN e s P W c C R U D v) : ∀ k, 1 ≤ k → k < P → okE (e k) (s k) := n.2.2.2.2.2.2.2.2.1
theorem pN.hp (n : pN e s P W c C R U D v) : 1 ≤ P → P + (1 - v) = D + W + 1 := n.2.2.2.2.2.2.2.2.2.1
theorem pN.hc (n : pN e s P W c C R U D v) : 1 ≤ P → C + P ≤ 9 * U + v * (W + 1) := n.2.2.2.2.2.2.2.2.2.2.1
theorem pN.hz (n : pN e s P W c C R U D v) : P = 0 → C ≤ 9 * U := n.2.2.2.2.2.2.2.2.2.2.2
end PN
def pI (e s : Nat → Int32) (p w : Int32) (c : Nat → Int32) (cs rb : Int32) (u : Nat → Int32) (wt : Int32) : Prop := ∃ P W C R U D : Nat, p = nI P ∧ w = nI W ∧ cs = nI (500 * R + C) ∧ rb = nI R ∧ u R = nI U ∧ P ≤ 60 ∧ C ≤ 370 ∧ pN e s P W c C R U D (wt1 wt)
theorem wn_congr {e e' : Nat → Int32} : ∀ k, (∀ i, i < k → e' i = e i) → wn e' k = wn e k := by
  intro k
  induction k with
  | zero => intro _; rfl
  | succ k ih => intro h; show wn e' k + _ = wn e k + _; rw [ih (fun i hi => h i (by omega)), h k (by omega)]
theorem wn_le {e : Nat → Int32} (h0 : e 0 = 8) : ∀ k, 1 ≤ k → wn e k + 1 ≤ k := by
  intro k
  induction k with
  | zero => intro h; omega
  | succ k ih =>
    intro _
    by_cases q : k = 0
    · subst q
      show 0 + (if e 0 = 3 ∨ e 0 = 7 then 1 else 0) + 1 ≤ 1
      rw [h0, if_neg (by decide)]
      omega
    · have := ih (by omega)
      show wn e k + (if e k = 3 ∨ e k = 7 then 1 else 0) + 1 ≤ k + 1
      split <;> omega
theorem dp_s {c : Nat → Int32} {lo k d : Nat} (h : dp c lo k = some d) : dp c lo (k + 1) = stp (c (lo + k)) d := by
  show (dp c lo k).bind (stp (c (lo + k))) = _
  rw [h]
  rfl
theorem dp_u {c c' : Nat → Int32} {lo k d d' : Nat} {x : Int32} (h : dp c lo k = some d) (e : c' = upd c (lo + k) x) (hs : stp x d = some d') : dp c' lo (k + 1) = some d' := by
  have a : dp c' lo k = some d := by rw [dp_congr k (fun j hj => by rw [e, pk_un (by omega)]), h]
  rw [dp_s a, e, pk_us]
  exact hs
theorem pI_rg {e s : Nat → Int32} {p w : Int32} {c : Nat → Int32} {cs rb : Int32} {u : Nat → Int32} {wt : Int32} (h : pI e s p w c cs rb u wt) : rg 0 60 p ∧ rg 0 7 w ∧ rg 0 870 cs ∧ rg 0 40 (u rb.toNatClampNeg) := by
  obtain ⟨P, W, C, R, U, D, hp, hw, hc, hr, hu, p60, c370, n⟩ := h
  have := n.hW
  have := n.hR
  have := n.hU
  refine ⟨by rw [hp]; exact rg_ofN (by omega) (by omega) (by omega), by rw [hw]; exact rg_ofN (by omega) (by omega) (by omega), by rw [hc]; exact rg_ofN (by omega) (by omega) (by omega), ?_⟩
  rw [hr, nI_clamp (by omega), hu]
  exact rg_ofN (by omega) (by omega) (by omega)
theorem pN_P {e s : Nat → Int32} {P W : Nat} {c : Nat → Int32} {C R U D v : Nat} (n : pN e s P W c C R U D v) : P ≤ 48 ∧ C ≤ 368 := by
  have := n.hD
  have := n.hU
  have := n.hW
  have := n.hv
  by_cases q : 1 ≤ P
  · have a := n.hp q
    have b := n.hc q
    have m : v * (W + 1) ≤ 8 := by
      rcases (show v = 0 ∨ v = 1 by omega) with rfl | rfl <;> omega
    omega
  · have := n.hz (by omega)
    omega
theorem pI_mk {e s : Nat → Int32} {p w : Int32} {c : Nat → Int32} {cs rb : Int32} {u : Nat → Int32} {wt : Int32} {P W C R U D : Nat} (hp : p.toInt = (P : Int)) (hw : w.toInt = (W : Int)) (hc : cs.toInt = ((500 * R + C : Nat) : Int)) (hr : rb = nI R) (hu : (u R).toInt = (U : Int)) (n : pN e s P W c C R U D (wt1 wt)) : pI e s p w c cs rb u wt := by
  obtain ⟨a, b⟩ := pN_P n
  have := n.hW
  have := n.hR
  have := n.hU
  exact ⟨P, W, C, R, U, D, cl_nI (by omega) hp, cl_nI (by omega) hw, cl_nI (by omega) hc, hr, cl_nI (by omega) hu, by omega, by omega, n⟩
/-- the start -/
theorem pI_0 {e s c u : Nat → Int32} {p w cs rb : Int32} (hr : rg 0 1 rb) (hc : cs = 500 * rb) (hp : p.toInt = 1) (hw : w = 0) (he : e 0 = 8) (hu : u rb.toNatClampNeg = 0) : pI e s p w c cs rb u 1 := by
  obtain ⟨q, h2, rfl, _, b2⟩ := rg_nat hr (by decide)
  rw [nI_clamp h2] at hu
  have q1 : q ≤ 1 := by omega
  refine pI_mk (P := 1) (W := 0) (C := 0) (R := q) (U := 0) (D := 0) hp (by rw [hw]; decide) ?_ rfl (by rw [hu]; decide) ?_
  · rw [hc]
    rcases (show q = 0 ∨ q = 1 by omega) with rfl | rfl <;> decide
  · have v1 : wt1 1 = 1 := rfl
    rw [v1]
    refine ⟨by omega, q1, by omega, by omega, rfl, by omega, fun _ => he, ?_, fun k h1 h2 => by omega, fun _ => by omega, fun _ => by omega, fun h => by omega⟩
    show 0 + (if e 0 = 3 ∨ e 0 = 7 then 1 else 0) = 0
    rw [he, if_neg (by decide)]
/-- a not, or what opens a bracket, goes on the pile -/
theorem pI_in {e s c u e' s' u' : Nat → Int32} {p w p' w' cs rb x y : Int32} (h : pI e s p w c cs rb u 1) (hp : 1 ≤ p.toInt) (hw : w.toInt < 7) (hx : x = 3 ∨ x = 7) (hy : y = 126) (ee : e' = upd e p.toNatClampNeg x) (es : s' = upd s p.toNatClampNeg y) (hp' : p'.toInt = p.toInt + 1) (hw' : w'.toInt = w.toInt + 1) (hu : u' rb.toNatClampNeg = u rb.toNatClampNeg ∨ (u rb.toNatClampNeg).toInt < 40 ∧ (u' rb.toNatClampNeg).toInt = (u rb.toNatClampNeg).toInt + 1) : pI e' s' p' w' c cs rb u' 1 := by
  obtain ⟨P, W, C, R, U, D, rfl, rfl, rfl, rfl, hu0, p60, c370, n⟩ := h
  have hR := n.hR
  have hU := n.hU
  rw [nI_toInt (by omega)] at hp hp'
  have hW7 := n.hW
  rw [nI_toInt (by omega)] at hw hw'
  rw [nI_clamp (by omega)] at ee es hu
  obtain ⟨U', hU', hUU, h40⟩ : ∃ U' : Nat, (u' R).toInt = (U' : Int) ∧ U ≤ U' ∧ U' ≤ 40 := by
    rcases hu with q | ⟨q1, q2⟩
    · exact ⟨U, by rw [q, hu0, nI_toInt (by omega)], by omega, hU⟩
    · rw [hu0, nI_toInt (by omega)] at q1 q2
      exact ⟨U + 1, by omega, by omega, by omega⟩
  have lo : ∀ i, i < P → e' i = e i := fun i hi => by rw [ee, pk_un (by omega)]
  have v1 : wt1 1 = 1 := rfl
  have hcc := n.hc (by omega)
  rw [v1] at hcc
  have hpp := n.hp (by omega)
  rw [v1] at hpp
  refine pI_mk (P := P + 1) (W := W + 1) (C := C) (R := R) (U := U') (D := D) (by omega) (by omega) (by rw [nI_toInt (by omega)]) rfl hU' ⟨by rw [v1]; omega, hR, h40, by omega, n.hd, by have := n.hD; omega, fun _ => ?_, ?_, fun k h1 h2 => ?_, fun _ => by rw [v1]; omega, fun _ => by rw [v1]; omega, fun q => by omega⟩
  · rw [lo 0 (by omega)]
    exact n.h0 (by omega)
  · show wn e' P + (if e' P = 3 ∨ e' P = 7 then 1 else 0) = W + 1
    rw [wn_congr P lo, n.hw, ee, pk_us, if_pos hx]
  · by_cases q : k = P
    · subst q
      rw [ee, es, pk_us, pk_us]
      rcases hx with rfl | rfl
      · exact ⟨by unfold rg; decide, fun _ => hy, fun q => absurd rfl q⟩
      · exact ⟨by unfold rg; decide, fun q => absurd q (by decide), fun _ q => absurd rfl q⟩
    · rw [lo k (by omega), es, pk_un (by omega)]
      exact n.hs k h1 (by omega)
/-- a unit's code -/
theorem pI_un {e s c u c' u' : Nat → Int32} {p w cs cs' rb x : Int32} (h : pI e s p w c cs rb u 1) (hp : 1 ≤ p.toInt) (hx : ¬ x = 126) (hl : (1 : Int32) = ltF x) (ec : c' = upd c cs.toNatClampNeg x) (hcs : cs'.toInt = cs.toInt + 1) (h40 : (u rb.toNatClampNeg).toInt < 40) (hu : (u' rb.toNatClampNeg).toInt = (u rb.toNatClampNeg).toInt + 1) : pI e s p w c' cs' rb u' 0 := by
  obtain ⟨P, W, C, R, U, D, rfl, rfl, rfl, rfl, hu0, p60, c370, n⟩ := h
  have hR := n.hR
  have hU := n.hU
  have hD := n.hD
  have hW7 := n.hW
  rw [nI_toInt (by omega)] at hp hcs
  rw [nI_clamp (by omega)] at ec hu h40
  rw [hu0, nI_toInt (by omega)] at h40 hu
  have v1 : wt1 1 = 1 := rfl
  have v0 : wt1 0 = 0 := rfl
  have hcc := n.hc (by omega)
  rw [v1] at hcc
  have hpp := n.hp (by omega)
  rw [v1] at hpp
  have hs : stp x D = some (D + 1) := by
    unfold stp
    rw [if_neg hx, if_pos hl.symm, if_pos (by omega)]
  refine pI_mk (P := P) (W := W) (C := C + 1) (R := R) (U := U + 1) (D := D + 1) (by rw [nI_toInt (by omega)]) (by rw [nI_toInt (by omega)]) (by omega) rfl (by omega) ⟨by rw [v0]; omega, hR, by omega, hW7, dp_u n.hd ec hs, by omega, n.h0, n.hw, n.hs, fun _ => by rw [v0]; omega, fun _ => by rw [v0]; omega, fun q => by omega⟩
/-- the pile's top is joined -/
theorem pI_pop {e s c u c' : Nat → Int32} {p w p' w' cs cs' rb x y : Int32} (h : pI e s p w c cs rb u 0) (hp : 1 ≤ p.toInt) (hp' : p'.toInt = p.toInt - 1) (hx : x = e p'.toNatClampNeg) (h6 : x.toInt ≤ 6) (hw : (x = 3 ∧ w'.toInt = w.toInt - 1) ∨ (¬ x = 3 ∧ w' = w)) (hy : y = s p'.toNatClampNeg) (ec : c' = upd c cs.toNatClampNeg y) (hcs : cs'.toInt = cs.toInt + 1) : pI e s p' w' c' cs' rb u 0 ∧ 1 ≤ p'.toInt := by
  obtain ⟨P, W, C, R, U, D, rfl, rfl, rfl, rfl, hu0, p60, c370, n⟩ := h
  have hR := n.hR
  have hU := n.hU
  have hD := n.hD
  have hW7 := n.hW
  rw [nI_toInt (by omega)] at hp hp' hcs
  rw [nI_clamp (by omega)] at ec
  obtain ⟨Q, rfl⟩ : ∃ Q, P = Q + 1 := ⟨P - 1, by omega⟩
  have ep : p' = nI Q := cl_nI (by omega) (by omega)
  rw [ep, nI_clamp (by omega)] at hx hy
  have h0 := n.h0 (by omega)
  have hQ : 1 ≤ Q := by
    rcases Nat.eq_zero_or_pos Q with q | q
    · subst q
      rw [hx, h0] at h6
      exact absurd h6 (by decide)
    · exact q
  have v0 : wt1 0 = 0 := rfl
  have hcc := n.hc (by omega)
  have hpp := n.hp (by omega)
  rw [v0] at hcc hpp
  have ok := n.hs Q hQ (by omega)
  rw [← hx, ← hy] at ok
  have hwn : wn e Q + (if e Q = 3 ∨ e Q = 7 then 1 else 0) = W := n.hw
  rw [← hx] at hwn
  have wl := wn_le h0 Q hQ
  have x7 : ¬ x = 7 := fun q => by rw [q] at h6; exact absurd h6 (by decide)
  obtain ⟨W', hW', hWW, hwq⟩ : ∃ W' : Nat, w'.toInt = (W' : Int) ∧ (W' ≤ W) ∧ wn e Q = W' := by
    rcases hw with ⟨q1, q2⟩ | ⟨q1, q2⟩
    · rw [if_pos (Or.inl q1)] at hwn
      rw [nI_toInt (by omega)] at q2
      exact ⟨wn e Q, by omega, by omega, rfl⟩
    · rw [if_neg (by rintro (q | q); exact q1 q; exact x7 q)] at hwn
      exact ⟨W, by rw [q2, nI_toInt (by omega)], by omega, by omega⟩
  obtain ⟨D', hs, hDD, hDl⟩ : ∃ D' : Nat, stp y D = some D' ∧ Q + 1 = D' + W' + 1 ∧ D' ≤ D := by
    unfold stp
    by_cases q : x = 3
    · rw [if_pos (Or.inl q)] at hwn
      rw [if_pos (ok.2.1 q), if_pos (by omega)]
      exact ⟨D, rfl, by omega, by omega⟩
    · obtain ⟨g1, g2⟩ := ok.2.2 q x7
      rw [if_neg (by rintro (q' | q'); exact q q'; exact x7 q')] at hwn
      rw [if_neg g1, if_neg (by rw [← g2]; decide), if_pos (by omega)]
      exact ⟨D - 1, rfl, by omega, by omega⟩
  refine ⟨pI_mk (P := Q) (W := W') (C := C + 1) (R := R) (U := U) (D := D') (by omega) hW' (by omega) rfl (by rw [hu0, nI_toInt (by omega)]) ⟨by rw [v0]; omega, hR, hU, by omega, dp_u n.hd ec hs, by omega, fun _ => h0, hwq, fun k h1 h2 => n.hs k h1 (by omega), fun _ => by rw [v0]; omega, fun _ => by rw [v0]; omega, fun q => by omega⟩, by omega⟩
/-- a sign that joins goes on the pile -/
theorem pI_rank {e s c u e' s' : Nat → Int32} {p w p' cs rb x y : Int32} (h : pI e s p w c cs rb u 0) (hp : 1 ≤ p.toInt) (hx : rg 1 6 x) (h3 : ¬ x = 3) (hy : ¬ y = 126) (hl : (0 : Int32) = ltF y) (ee : e' = upd e p.toNatClampNeg x) (es : s' = upd s p.toNatClampNeg y) (hp' : p'.toInt = p.toInt + 1) : pI e' s' p' w c cs rb u 1 := by
  obtain ⟨P, W, C, R, U, D, rfl, rfl, rfl, rfl, hu0, p60, c370, n⟩ := h
  have hR := n.hR
  have hU := n.hU
  have hW7 := n.hW
  rw [nI_toInt (by omega)] at hp hp'
  rw [nI_clamp (by omega)] at ee es
  have lo : ∀ i, i < P → e' i = e i := fun i hi => by rw [ee, pk_un (by omega)]
  have v1 : wt1 1 = 1 := rfl
  have v0 : wt1 0 = 0 := rfl
  have hcc := n.hc (by omega)
  have hpp := n.hp (by omega)
  rw [v0] at hcc hpp
  have x7 : ¬ x = 7 := fun q => by rw [q] at hx; exact absurd hx.2 (by decide)
  refine pI_mk (P := P + 1) (W := W) (C := C) (R := R) (U := U) (D := D) (by omega) (by rw [nI_toInt (by omega)]) (by rw [nI_toInt (by omega)]) rfl (by rw [hu0, nI_toInt (by omega)]) ⟨by rw [v1]; omega, hR, hU, hW7, n.hd, n.hD, fun _ => by rw [lo 0 (by omega)]; exact n.h0 (by omega), ?_, fun k h1 h2 => ?_, fun _ => by rw [v1]; omega, fun _ => by rw [v1]; omega, fun q => by omega⟩
  · show wn e' P + (if e' P = 3 ∨ e' P = 7 then 1 else 0) = W
    rw [wn_congr P lo, n.hw, ee, pk_us, if_neg (by rintro (q | q); exact h3 q; exact x7 q)]
    rfl
  · by_cases q : k = P
    · subst q
      rw [ee, es, pk_us, pk_us]
      exact ⟨rg_mono hx (by decide) (by decide), fun q => absurd q h3, fun _ _ => ⟨hy, hl⟩⟩
    · rw [lo k (by omega), es, pk_un (by omega)]
      exact n.hs k h1 (by omega)
/-- what is closed goes off the pile -/
theorem pI_end {e s c u : Nat → Int32} {p w p' w' cs rb x : Int32} (h : pI e s p w c cs rb u 0) (hp : 1 ≤ p.toInt) (hp' : p'.toInt = p.toInt - 1) (hx : x = e p'.toNatClampNeg) (h6 : 6 < x.toInt) (hw : (x = 7 ∧ w'.toInt = w.toInt - 1) ∨ (¬ x = 7 ∧ w' = w)) : pI e s p' w' c cs rb u 0 := by
  obtain ⟨P, W, C, R, U, D, rfl, rfl, rfl, rfl, hu0, p60, c370, n⟩ := h
  have hR := n.hR
  have hU := n.hU
  have hD := n.hD
  have hW7 := n.hW
  rw [nI_toInt (by omega)] at hp hp'
  obtain ⟨Q, rfl⟩ : ∃ Q, P = Q + 1 := ⟨P - 1, by omega⟩
  have ep : p' = nI Q := cl_nI (by omega) (by omega)
  rw [ep, nI_clamp (by omega)] at hx
  have h0 := n.h0 (by omega)
  have v0 : wt1 0 = 0 := rfl
  have hcc := n.hc (by omega)
  have hpp := n.hp (by omega)
  rw [v0] at hcc hpp
  have hwn : wn e Q + (if e Q = 3 ∨ e Q = 7 then 1 else 0) = W := n.hw
  rw [← hx] at hwn
  have x3 : ¬ x = 3 := fun q => by rw [q] at h6; exact absurd h6 (by decide)
  by_cases q : x = 7
  · rcases hw with ⟨_, q2⟩ | ⟨q1, _⟩
    · rw [if_pos (Or.inr q)] at hwn
      rw [nI_toInt (by omega)] at q2
      have hQ : 1 ≤ Q := by
        rcases Nat.eq_zero_or_pos Q with z | z
        · subst z
          rw [hx, h0] at q
          exact absurd q (by decide)
        · exact z
      exact pI_mk (P := Q) (W := wn e Q) (C := C) (R := R) (U := U) (D := D) (by omega) (by omega) (by rw [nI_toInt (by omega)]) rfl (by rw [hu0, nI_toInt (by omega)]) ⟨by rw [v0]; omega, hR, hU, by omega, n.hd, hD, fun _ => h0, rfl, fun k h1 h2 => n.hs k h1 (by omega), fun _ => by rw [v0]; omega, fun _ => by rw [v0]; omega, fun z => by omega⟩
    · exact absurd q q1
  · rcases hw with ⟨q1, _⟩ | ⟨_, q2⟩
    · exact absurd q1 q
    · rw [if_neg (by rintro (z | z); exact x3 z; exact q z)] at hwn
      have hQ : Q = 0 := by
        rcases Nat.eq_zero_or_pos Q with z | z
        · exact z
        · have ok := (n.hs Q z (by omega)).1.2
          rw [← hx] at ok
          have : x = 7 := by rw [fa_eq, (by decide : (7 : Int32).toInt = 7)]; omega
          exact absurd this q
      subst hQ
      exact pI_mk (P := 0) (W := W) (C := C) (R := R) (U := U) (D := D) (by omega) (by rw [q2, nI_toInt (by omega)]) (by rw [nI_toInt (by omega)]) rfl (by rw [hu0, nI_toInt (by omega)]) ⟨by rw [v0]; omega, hR, hU, hW7, n.hd, hD, fun z => by omega, by have : wn e 0 = 0 := rfl; omega, fun k h1 h2 => by omega, fun z => by omega, fun z => by omega, fun _ => by omega⟩
theorem pI_gc {e s c u t : Nat → Int32} {p w cs rb wt x : Int32} (h : pI e s p w c cs rb u wt) (e1 : t rb.toNatClampNeg = cs) : gcd_ c t rb := by
  obtain ⟨P, W, C, R, U, D, rfl, rfl, rfl, rfl, hu0, p60, c370, n⟩ := h
  exact ⟨R, C, n.hR, rfl, by omega, e1, by rw [n.hd]; rfl⟩
theorem pI_top {e s c u : Nat → Int32} {p w cs rb wt : Int32} (h : pI e s p w c cs rb u wt) (hp : 1 ≤ p.toInt) : e 0 = 8 := by
  obtain ⟨P, W, C, R, U, D, rfl, rfl, rfl, rfl, hu0, p60, c370, n⟩ := h
  rw [nI_toInt (by omega)] at hp
  exact n.h0 (by omega)
theorem pI_w {e s c u : Nat → Int32} {p w p' cs rb wt x : Int32} (h : pI e s p w c cs rb u wt) (hp : 1 ≤ p.toInt) (hp' : p'.toInt = p.toInt - 1) (hx : x = e p'.toNatClampNeg) (h3 : x = 3 ∨ x = 7) : rg 1 7 w := by
  obtain ⟨P, W, C, R, U, D, rfl, rfl, rfl, rfl, hu0, p60, c370, n⟩ := h
  have hW7 := n.hW
  rw [nI_toInt (by omega)] at hp hp'
  obtain ⟨Q, rfl⟩ : ∃ Q, P = Q + 1 := ⟨P - 1, by omega⟩
  have ep : p' = nI Q := cl_nI (by omega) (by omega)
  rw [ep, nI_clamp (by omega)] at hx
  have hwn : wn e Q + (if e Q = 3 ∨ e Q = 7 then 1 else 0) = W := n.hw
  rw [← hx, if_pos h3] at hwn
  exact rg_ofN (by omega) (by omega) (by omega)
theorem ck_e {c c' e s u : Nat → Int32} {p w cs rb wt x : Int32} (h : pI e s p w c cs rb u wt) (ec : c' = upd c cs.toNatClampNeg x) : ck c c' rb := by
  obtain ⟨P, W, C, R, U, D, rfl, rfl, rfl, rfl, hu0, p60, c370, n⟩ := h
  have := n.hR
  rw [nI_clamp (by omega)] at ec
  intro q j hq hj hr
  rw [ec, pk_un]
  intro z
  have : ¬ R = q := fun z' => hr (by rw [z'])
  omega
def sgF (t : Nat → Int32) (z k : Int32) : Int32 := if k < z then t k.toNatClampNeg &&& 255 else 0
theorem sg_y {t : Nat → Int32} {z k r : Int32} (h : k < z) (e : r = t k.toNatClampNeg &&& 255) : r = sgF t z k := by
  unfold sgF
  rw [if_pos h, e]
theorem sg_n {t : Nat → Int32} {z k : Int32} (h : z ≤ k) : (0 : Int32) = sgF t z k := by
  unfold sgF
  rw [if_neg]
  rw [fa_le] at h
  rw [fa_lt]
  omega
def sgok (y : Int32) : Prop := ¬ y = 126 ∧ (0 : Int32) = ltF y
def pcd (c : Nat → Int32) (cs rb : Int32) : Prop := ∃ R C : Nat, R ≤ 1 ∧ rb = nI R ∧ C ≤ 400 ∧ cs = nI (500 * R + C) ∧ (dp c (500 * R) C).isSome
theorem pI_pcd {e s c u : Nat → Int32} {p w cs rb wt : Int32} (h : pI e s p w c cs rb u wt) : pcd c cs rb := by
  obtain ⟨P, W, C, R, U, D, rfl, rfl, rfl, rfl, hu0, p60, c370, n⟩ := h
  exact ⟨R, C, n.hR, rfl, by omega, rfl, by rw [n.hd]; rfl⟩
theorem pcd_gc {c t : Nat → Int32} {cs rb : Int32} (h : pcd c cs rb) (e : t rb.toNatClampNeg = cs) : gcd_ c t rb := by
  obtain ⟨R, C, h1, h2, h3, h4, h5⟩ := h
  exact ⟨R, C, h1, h2, h3, by rw [e, h4], h5⟩
def eM (k a p : Int32) : Nat := if k = 0 then (1602 - a.toInt).toNat * 100 + p.toInt.toNat + 1 else 0
theorem eM_lt {k k' a a' p p' : Int32} (hk : k = 0) (ha : rg 0 1601 a) (ha' : rg 0 1601 a') (hp : rg 0 60 p) (hp' : rg 0 90 p') (h : k' = 0 → (a.toInt < a'.toInt ∧ p'.toInt ≤ p.toInt + 1) ∨ (a.toInt ≤ a'.toInt ∧ p'.toInt < p.toInt)) : eM k' a' p' < eM k a p := by
  unfold eM
  rw [if_pos hk]
  by_cases q : k' = 0
  · rw [if_pos q]
    have h1 := ha.1
    have h2 := ha.2
    have h3 := ha'.1
    have h4 := ha'.2
    have h5 := hp.1
    have h6 := hp.2
    have h7 := hp'.1
    rcases h q with ⟨g1, g2⟩ | ⟨g1, g2⟩ <;> omega
  · rw [if_neg q]
    omega
def vM (k a : Int32) : Nat := if k = 0 then (1602 - a.toInt).toNat + 1 else 0
theorem vM_lt {k k' a a' : Int32} (hk : k = 0) (ha : rg 0 1601 a) (ha' : rg 0 1601 a') (h : k' = 0 → a.toInt < a'.toInt) : vM k' a' < vM k a := by
  unfold vM
  rw [if_pos hk]
  by_cases q : k' = 0
  · rw [if_pos q]
    have h1 := ha.1
    have h2 := ha.2
    have h3 := ha'.1
    have h4 := ha'.2
    have g := h q
    omega
  · rw [if_neg q]
    omega
def bm (y : Nat → Int32) (p : Int32) : Prop := ∀ i : Nat, (i : Int) < p.toInt → y i = -1
theorem bm_0 (y : Nat → Int32) : bm y 0 := by
  intro i hi
  rw [(by decide : (0 : Int32).toInt = 0)] at hi
  omega
theorem bm_s {y y' : Nat → Int32} {p p' : Int32} {a b : Int} (h : bm y p) (e : y' = upd y p.toNatClampNeg (-1)) (hp : rg a b p) (h0 : 0 ≤ a) (hp' : p'.toInt = p.toInt + 1) : bm y' p' := by
  intro i hi
  have c := cl_of hp h0
  rw [e]
  by_cases q : i = p.toNatClampNeg
  · rw [q, pk_us]
  · rw [pk_un q]
    exact h i (by omega)
theorem bm_bx {y o g : Nat → Int32} {b p : Int32} (h : bm y p) (hp : 3 ≤ p.toInt) : bxo y o g b := by
  intro j hj h0
  rw [h j (by omega)] at h0
  exact absurd h0 (by decide)
theorem rg4 {x : Int32} (h : 0 < x) (h1 : ¬ x = 1) (h2 : ¬ x = 2) (h3 : ¬ x = 3) : 4 ≤ x.toInt := by
  rw [fa_lt, (by decide : (0 : Int32).toInt = 0)] at h
  rw [fa_eq, (by decide : (1 : Int32).toInt = 1)] at h1
  rw [fa_eq, (by decide : (2 : Int32).toInt = 2)] at h2
  rw [fa_eq, (by decide : (3 : Int32).toInt = 3)] at h3
  omega
