theorem gT_last {f : Nat → Int32} {d u o w : Int32} (h : gT f d u o w) (hd : 0 ≤ d.toInt) (hr : rgA (-1) 9 f) : rg (-1) 8 (f d.toNatClampNeg) := by
  have a := hr d.toNatClampNeg
  rcases Int.lt_or_le (f d.toNatClampNeg).toInt 0 with q | q
  · exact ⟨a.1, by omega⟩
  · have := (h.2 hd q).1
    exact ⟨by have := this.1; omega, this.2⟩
theorem gM_e {f : Nat → Int32} {d : Int32} {k : Nat} (h : d.toInt = (k : Int)) : gM f d = 20 ^ 9 + 1 - vV 20 2 1 2 f k := by
  unfold gM
  rw [if_neg (by omega), h]
  rfl
theorem gS_back {f f' : Nat → Int32} {d d' u u' o n w : Int32} (ht : gT f d u o w) (hd : rg 0 8 d) (hr : rgA (-1) 9 f) (he : ∀ i : Nat, (i : Int) < d.toInt → f' i = f i) (hd' : d'.toInt = d.toInt - 1) : gM f' d' < gM f d ∧ (fL n f d → fL n f' d') := by
  have c := cl_of hd (by decide)
  have la := gT_last ht hd.1 hr
  have lo : ∀ i, i < d.toNatClampNeg → rg 0 8 (f i) := fun i hi => (ht.1.1 i (by omega)).1
  have d8 := hd.2
  have b20 := vV_le (B := 20) (m := 2) (c := 1) (e := 2) (f := f) (by decide) (by decide) d.toNatClampNeg (by omega) lo la
  rw [gM_e (f := f) c.symm]
  by_cases z : d'.toInt < 0
  · refine ⟨by unfold gM; rw [if_pos z]; omega, fun h => ⟨h.1, h.2.1, fun q => by omega⟩⟩
  · obtain ⟨k, hk⟩ : ∃ k : Nat, d'.toInt = (k : Int) := ⟨d'.toInt.toNat, by omega⟩
    have hk1 : d.toNatClampNeg = k + 1 := by omega
    rw [gM_e (f := f') hk]
    have r := lo k (by omega)
    have r1 := r.1
    have r2 := r.2
    rw [hk1] at la b20
    have l1 := la.1
    have l2 := la.2
    have v20 := vV_back (B := 20) (m := 2) (c := 1) (e := 2) (x := 1) (f := f) (f' := f') k (by omega) (fun i hi => he i (by omega)) (by omega) (by omega)
    have v9 := vV_back (B := 9) (m := 1) (c := 0) (e := 1) (x := 0) (f := f) (f' := f') k (by omega) (fun i hi => he i (by omega)) (by omega) (by omega)
    have p : 0 < 20 ^ (8 - (k + 1)) := Nat.pow_pos (by decide)
    rw [hk1]
    refine ⟨by omega, fun h => ⟨h.1, h.2.1, fun _ => ?_⟩⟩
    have h3 := h.2.2 hd.1
    rw [show d.toInt.toNat = k + 1 by omega] at h3
    rw [show d'.toInt.toNat = k by omega]
    omega
theorem gS_leaf {f f' : Nat → Int32} {d u o n n' h x w : Int32} (ht : gT f d u o w) (hd : rg 0 8 d) (hr : rgA (-1) 9 f) (hx : x = f d.toNatClampNeg) (hh : rg 0 8 h) (hg : x.toInt < h.toInt) (ef : f' = upd f d.toNatClampNeg h) : gM f' d < gM f d ∧ (fL n f d → n' = n ∨ n' = n + 1 → fL n' f' d) := by
  have c := cl_of hd (by decide)
  have la := gT_last ht hd.1 hr
  have lo : ∀ i, i < d.toNatClampNeg → rg 0 8 (f i) := fun i hi => (ht.1.1 i (by omega)).1
  have d8 := hd.2
  have same : ∀ i, i < d.toNatClampNeg → f' i = f i := fun i hi => by rw [ef, pk_un (by omega)]
  have at_ : f' d.toNatClampNeg = h := by rw [ef, pk_us]
  rw [hx] at hg
  have b20 := vV_le (B := 20) (m := 2) (c := 1) (e := 2) (f := f) (by decide) (by decide) d.toNatClampNeg (by omega) lo la
  have v20 := vV_leaf (B := 20) (m := 2) (c := 1) (e := 2) (f := f) (f' := f') (by decide) (by decide) d.toNatClampNeg same la (by rw [at_]; exact hg)
  have v9 := vV_leaf (B := 9) (m := 1) (c := 0) (e := 1) (f := f) (f' := f') (by decide) (by decide) d.toNatClampNeg same la (by rw [at_]; exact hg)
  have b9 := vV_le (B := 9) (m := 1) (c := 0) (e := 1) (f := f') (by decide) (by decide) d.toNatClampNeg (by omega) (fun i hi => by rw [same i hi]; exact lo i hi) (by rw [at_]; exact rg_mono hh (by decide) (by decide))
  rw [gM_e (f := f) c.symm, gM_e (f := f') c.symm]
  have e9 : 9 ^ 9 = 387420489 := by decide
  rw [e9] at b9
  refine ⟨by omega, fun hl hn => ?_⟩
  obtain ⟨p1, p2, p3⟩ := hl
  have p3 := p3 hd.1
  rw [show d.toInt.toNat = d.toNatClampNeg by omega] at p3
  have q : n'.toInt ≤ n.toInt + 1 ∧ n.toInt ≤ n'.toInt := by
    rcases hn with rfl | rfl
    · omega
    · have := rg_addQ (rg_k (x := n) rfl) (rg_k (x := 1) (c := 1) (by decide)) (by omega) (by omega)
      rw [this, (by decide : (1 : Int32).toInt = 1)]
      omega
  unfold fL
  rw [show d.toInt.toNat = d.toNatClampNeg by omega]
  exact ⟨by omega, by omega, fun _ => by omega⟩
theorem gS_push {f f' f'' : Nat → Int32} {d d1 u o n h x w : Int32} (ht : gT f d u o w) (hd : rg 0 7 d) (hr : rgA (-1) 9 f) (hx : x = f d.toNatClampNeg) (hh : rg 0 8 h) (hg : x.toInt < h.toInt) (ef : f' = upd f d.toNatClampNeg h) (hd1 : d1.toInt = d.toInt + 1) (ef2 : f'' = upd f' d1.toNatClampNeg (-1)) : gM f'' d1 < gM f d ∧ (fL n f d → fL n f'' d1) := by
  have c := cl_of hd (by decide)
  have hd8 : rg 0 8 d := rg_mono hd (by decide) (by decide)
  have la := gT_last ht hd.1 hr
  have lo : ∀ i, i < d.toNatClampNeg → rg 0 8 (f i) := fun i hi => (ht.1.1 i (by omega)).1
  have d8 := hd.2
  have hr1 : rg 0 8 d1 := ⟨by have := hd.1; omega, by omega⟩
  have c1 := cl_of hr1 (by decide)
  have same : ∀ i, i < d.toNatClampNeg → f'' i = f i := fun i hi => by rw [ef2, pk_un (by omega), ef, pk_un (by omega)]
  have at_ : f'' d.toNatClampNeg = h := by rw [ef2, pk_un (by omega), ef, pk_us]
  rw [hx] at hg
  have la1 := la.1
  have hh1 := hh.1
  have b20 := vV_le (B := 20) (m := 2) (c := 1) (e := 2) (f := f) (by decide) (by decide) d.toNatClampNeg (by omega) lo la
  have v20 := vV_push (B := 20) (m := 2) (c := 1) (e := 2) (x := 1) (f := f) (f' := f'') d.toNatClampNeg same (by rw [at_]; omega)
  have v9 := vV_push (B := 9) (m := 1) (c := 0) (e := 1) (x := 0) (f := f) (f' := f'') d.toNatClampNeg same (by rw [at_]; omega)
  have p : 0 < 20 ^ (8 - d.toNatClampNeg) := Nat.pow_pos (by decide)
  rw [gM_e (f := f) c.symm, gM_e (f := f'') (k := d.toNatClampNeg + 1) (by omega)]
  refine ⟨by omega, fun hl => ?_⟩
  obtain ⟨p1, p2, p3⟩ := hl
  have p3 := p3 hd.1
  rw [show d.toInt.toNat = d.toNatClampNeg by omega] at p3
  unfold fL
  rw [show d1.toInt.toNat = d.toNatClampNeg + 1 by omega]
  exact ⟨p1, p2, fun _ => by omega⟩
theorem fL_0 (f : Nat → Int32) (d : Int32) : fL 0 f d := ⟨by decide, by decide, fun _ => by rw [(by decide : (0 : Int32).toInt = 0)]; omega⟩
theorem fL_rg {n d : Int32} {f : Nat → Int32} (h : fL n f d) : rg 0 387420489 n := ⟨h.1, h.2.1⟩
theorem r8_u {f f' : Nat → Int32} {p v : Int32} {a b : Int} (h : r8 f p) (hp : rg a b p) (h0 : 0 ≤ a) (e : f' = upd f p.toNatClampNeg v) : r8 f' p := by
  intro i hi
  have c := cl_of hp h0
  rw [e, pk_un (by omega)]
  exact h i hi
section WK3
variable {p : Program} {l : Launch} {e : Env} {R : Room} {s : State} {m : MethodId} {args : Array Value} {below : List Frame} {meth : Method} {c : Code} {cells slots : Nat} {Q : State → Prop}
theorem W_join {σ : Type} (Inv : σ → Heap → List Loc → Array Slot → Prop) (pc : Nat) (st : List Value) {H0 : Heap} {locs0 : List Loc} {g : JFrame}
    (h1 : ∀ (u : σ) (H : Heap) (locs : List Loc) (ls : Array Slot), Inv u H locs ls → W p l e R s m args below meth c H locs cells slots Q (F0 m pc ls st))
    (h2 : (∀ (u : σ) (H : Heap) (locs : List Loc) (ls : Array Slot), Inv u H locs ls → W p l e R s m args below meth c H locs cells slots Q (F0 m pc ls st)) → W p l e R s m args below meth c H0 locs0 cells slots Q g) : W p l e R s m args below meth c H0 locs0 cells slots Q g := h2 h1
end WK3
