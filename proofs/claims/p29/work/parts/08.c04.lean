def v_s_X3_holds : List Cond := Cond.code yX3_holds cX3_holds 3 (some .boolean) :: ([Cond.fieldLink RX3 15 "MayRings$Order" "size" "I", Cond.fieldLink RX3 9 "MayRings$Order" "houses" "[I"] ++ (wsX30 ++ ([])))
theorem k_s_X3_holds : GoodIn lw_tbl v_s_X3_holds := gd_c (List.mem_of_getElem? (i := 856) (by decide +kernel)) rfl (goodIn_app (gd_c (List.mem_of_getElem? (i := 363) (by decide +kernel)) rfl (gd_c (List.mem_of_getElem? (i := 360) (by decide +kernel)) rfl (gd_nil))) (goodIn_app kfX3 (gd_nil)))
set_option maxHeartbeats 2000000 in
set_option maxRecDepth 100000 in
theorem c_s_X3_holds (l : Launch) (dC : Nat → ClassId) (dI : Nat → Nat → Nat) (cB cI cJ cZ cP : ClassId) (h0 : Nat) (h1 : Nat) (g0 : Nat → Int32) (hg0 : rgA (0) (8) g0) (a0 : Int32) (ha0 : rg (-1) (9) a0) (p0 : Int32) (sz : Nat) : Met l yX3_holds v_s_X3_holds ({ frames := 0, cells := 0, slots := 0, locals := 0 }) (va_Pc [.ref h0, .int p0] (fun U => U.heap.size = sz ∧ va_P (dC, dI) vwCl [(h0, .inr (3, [.ref h1, .int a0])), (h1, .inl (cI, 9, .inl g0))] U.heap ∧ va_K (dC, dI) vwCl (ty5 cB cI cJ cZ cP) U ∧ va_D (fun _ => True) [(h0, .inr (3, [.ref h1, .int a0])), (h1, .inl (cI, 9, .inl g0))])) (va_Qi (fun (r : Int32) (u9 : Unit) => rg (0) (1) r) (fun u9 t => va_P (dC, dI) vwCl [(h0, .inr (3, [.ref h1, .int a0])), (h1, .inl (cI, 9, .inl g0))] t.heap ∧ va_D (va_A [(h0, .inr (3, [.ref h1, .int a0])), (h1, .inl (cI, 9, .inl g0))] sz) [(h0, .inr (3, [.ref h1, .int a0])), (h1, .inl (cI, 9, .inl g0))]) (va_A [(h0, .inr (3, [.ref h1, .int a0])), (h1, .inl (cI, 9, .inl g0))] sz)) 0 0 (va_A [(h0, .inr (3, [.ref h1, .int a0])), (h1, .inl (cI, 9, .inl g0))] sz) := by
  refine Met.ofW (cc := cX3_holds) (maxL := 3) (ret := (some .boolean)) (by decide) rfl ?_
  intro p e s m args below meth c s₁ B hml hv
  obtain ⟨rfl, hsz, hP, hK, hD0⟩ := hv
  have hx := B.exec
  have hb := B.bytes
  have hr := B.returns
  have hts := atoms_spec (ws := v_s_X3_holds) B.pre
  have hown : s.vm.findClass RX3 = some m.cls := findClass_of_methodNamed B.named
  have hlocks := B.notSynchronized
  have hinX3 : ∀ w ∈ wsX30, w ∈ v_s_X3_holds := fun _ h => List.mem_cons_of_mem _ (List.mem_append_right _ (List.mem_append_left _ h))
  subst hsz
  have hD := hD0.self (sz := s.heap.size)
  generalize hAe : va_A [(h0, .inr (3, [.ref h1, .int a0])), (h1, .inl (cI, 9, .inl g0))] s.heap.size = A at hD ⊢
  have hA : ∀ q : Nat, s.heap.size ≤ q → A q := fun q h => by rw [← hAe]; exact Or.inr h
  have hP : va_P (dC, dI) vwCl [(h0, .inr (3, [.ref h1, .int a0])), (h1, .inl (cI, 9, .inl g0))] s.heap := hP
  have hl := lv_entry ([.ref h0, .int p0]) (n := 3) (Nat.le_of_ble_eq_true rfl)
  rw [lg_entry_eq]
  generalize (lg_sl ([.ref h0, .int p0]) ++ List.replicate (3 - (lg_sl ([.ref h0, .int p0])).length) Slot.unset).toArray = ls at hl ⊢
  have hl : lv_has ls 3 [(0, .ref h0), (1, .int p0)] := hl
  refine W_gen (A := A) hP (fun H locs hP hS => ?_)
  refine lv_iconst (v := 0) hx hb dX3_holds_0 (by decide) ?_
  refine lv_istore_n (lv' := [(2, .int 0), (0, .ref h0), (1, .int p0)]) hx hb dX3_holds_1 rfl hl (by decide) rfl (fun ls hl => ?_)
  refine W_loopM (σ := Int32) (fun u H locs ls => va_P (dC, dI) vwCl [(h0, .inr (3, [.ref h1, .int a0])), (h1, .inl (cI, 9, .inl g0))] H ∧ va_D A [(h0, .inr (3, [.ref h1, .int a0])), (h1, .inl (cI, 9, .inl g0))] ∧ va_S A s.heap H locs ∧ lv_has ls 3 [(2, .int u), (0, .ref h0), (1, .int p0)] ∧ rg (0) (9) u) (fun u => ((9) - u.toInt).toNat) 2 [] ?_ (0) H locs ls ⟨hP, hD, hS, hl, (rg_mono (rg_k (x := 0) (c := 0) (by decide)) (by decide) (by decide))⟩
  rintro x_71 H locs ls ⟨hP, hD, hS, hl, hx_71⟩ ih_80
  replace hP : va_P (dC, dI) vwCl [(h0, .inr (3, [.ref h1, .int a0])), (h1, .inl (cI, 9, .inl g0))] H := hP
  replace hD : va_D A [(h0, .inr (3, [.ref h1, .int a0])), (h1, .inl (cI, 9, .inl g0))] := hD
  replace hl : lv_has ls 3 [(2, .int x_71), (0, .ref h0), (1, .int p0)] := hl
  replace hx_71 : rg (0) (9) x_71 := hx_71
  refine lv_iload_n hx hb dX3_holds_2 rfl (lv_at hl 0 rfl) ?_
  refine lv_aload_n hx hb dX3_holds_3 rfl (lv_at hl 1 rfl) ?_
  refine va_get (D := (dC, dI)) (ci := 3) (v := .int a0) (C := RX3) (T := TX3) (N := 2) hx hb hts hinX3 hown hK hP 0 rfl rfl 1 (by decide) (hts (.fieldLink RX3 15 "MayRings$Order" "size" "I") (List.mem_of_getElem? (i := 1) rfl)) (fun _ h9 => h9) rfl dX3_holds_4 ?_
  refine lv_icmp_ge (tgt := 28) hx hb dX3_holds_7 (by decide) (fun c_81 => ?_) (fun c_81 => ?_)
  · skip
    refine lv_iconst (v := 0) hx hb dX3_holds_28 (by decide) ?_
    have hP9 := hP.sub (ws' := [(h0, .inr (3, [.ref h1, .int a0])), (h1, .inl (cI, 9, .inl g0))]) [0, 1] rfl
    have hD9 := hD.sub (ws' := [(h0, .inr (3, [.ref h1, .int a0])), (h1, .inl (cI, 9, .inl g0))]) [0, 1] (by decide) rfl
    exact W.zret (v := 0) hx hb hr (rfl) (fun t ht hW => ⟨⟨0, (), rfl, (rg_mono (rg_k (x := 0) (c := 0) (by decide)) (by decide) (by decide)), ⟨by rw [ht]; exact hP9, hD9⟩⟩, hS.F ht⟩) hS.2.2 dX3_holds_29
  · skip
    have h_82 : rg (0) (8) x_71 := by have ha := hx_71; have hb_ := ha0; simp only [rg, fa_lt, fa_le, fa_eq] at ha hb_ c_81; simp only [rg]; omega
    have h_83 : rg (1) (9) a0 := by have ha := h_82; have hb_ := ha0; have hc_ := c_81; simp only [rg, fa_lt, fa_le, fa_eq] at ha hb_ hc_; simp only [rg]; omega
    have h_84 : rg (1) (9) a0 := by have ha := hx_71; have hb_ := ha0; simp only [rg, fa_lt, fa_le, fa_eq] at ha hb_ c_81; simp only [rg]; omega
    refine lv_aload_n hx hb dX3_holds_10 rfl (lv_at hl 1 rfl) ?_
    refine va_get (D := (dC, dI)) (ci := 3) (v := .ref h1) (C := RX3) (T := TX3) (N := 2) hx hb hts hinX3 hown hK hP 0 rfl rfl 0 (by decide) (hts (.fieldLink RX3 9 "MayRings$Order" "houses" "[I") (List.mem_of_getElem? (i := 2) rfl)) (fun _ h9 => h9) rfl dX3_holds_11 ?_
    refine lv_iload_n hx hb dX3_holds_14 rfl (lv_at hl 0 rfl) ?_
    refine va_iald hx hb hK hP 1 1 rfl rfl (rg_in (n := 9) (rg_mono h_82 (by decide) (by decide))) dX3_holds_15 ?_
    refine lv_topi (fun x_85 ex_85 => ?_)
    have hx_85 : rg (0) (8) x_85 := by rw [ex_85]; exact rg_mono (hg0 _) (by decide) (by decide)
    refine lv_iload_n hx hb dX3_holds_16 rfl (lv_at hl 2 rfl) ?_
    refine lv_icmp_ne (tgt := 22) hx hb dX3_holds_17 (by decide) (fun c_86 => ?_) (fun c_86 => ?_)
    · skip
      obtain ⟨x_87, ex_87⟩ : ∃ y : Int32, y = x_71 + Int32.ofInt (1) := ⟨_, rfl⟩
      have hx_87 : rg (1) (9) x_87 := by rw [ex_87]; exact rg_mono (rg_add h_82 (rg_k (x := Int32.ofInt (1)) (c := 1) (by decide)) (by decide) (by decide)) (by decide) (by decide)
      have qx_87 : x_87.toInt = x_71.toInt + (1) := by rw [ex_87]; exact rg_addE h_82 (rg_k (x := Int32.ofInt (1)) (c := 1) (by decide)) (by decide) (by decide) (by decide)
      refine lv_iinc (v := x_87) (lv' := [(2, .int x_87), (0, .ref h0), (1, .int p0)]) hx hb dX3_holds_22 hl (k := 0) rfl (ex_87.symm) (by decide) rfl (fun ls hl => ?_)
      clear ex_87
      refine lv_goto (tgt := 2) hx hb dX3_holds_25 (by decide) ?_
      exact ih_80 (x_87) H locs ls ⟨hP.sub (ws' := [(h0, .inr (3, [.ref h1, .int a0])), (h1, .inl (cI, 9, .inl g0))]) [0, 1] rfl, hD.sub (ws' := [(h0, .inr (3, [.ref h1, .int a0])), (h1, .inl (cI, 9, .inl g0))]) [0, 1] (by decide) rfl, hS, lv_sub hl [0, 1, 2] rfl, (rg_mono hx_87 (by decide) (by decide))⟩ (by show ((9) - x_87.toInt).toNat < ((9) - x_71.toInt).toNat; have ha := h_82; simp only [rg] at ha; omega)
    · skip
      have h_88 : rg (0) (8) p0 := by have ha := hx_85; have hb_ := (rg_any p0); simp only [rg, fa_lt, fa_le, fa_eq] at ha hb_ c_86; simp only [rg]; omega
      refine lv_iconst (v := 1) hx hb dX3_holds_20 (by decide) ?_
      have hP9 := hP.sub (ws' := [(h0, .inr (3, [.ref h1, .int a0])), (h1, .inl (cI, 9, .inl g0))]) [0, 1] rfl
      have hD9 := hD.sub (ws' := [(h0, .inr (3, [.ref h1, .int a0])), (h1, .inl (cI, 9, .inl g0))]) [0, 1] (by decide) rfl
      exact W.zret (v := 1) hx hb hr (rfl) (fun t ht hW => ⟨⟨1, (), rfl, (rg_mono (rg_k (x := 1) (c := 1) (by decide)) (by decide) (by decide)), ⟨by rw [ht]; exact hP9, hD9⟩⟩, hS.F ht⟩) hS.2.2 dX3_holds_21
def v_s_X3_houseAt : List Cond := Cond.code yX3_houseAt cX3_houseAt 2 (some .int) :: ([Cond.fieldLink RX3 15 "MayRings$Order" "size" "I", Cond.fieldLink RX3 9 "MayRings$Order" "houses" "[I"] ++ (wsX30 ++ ([])))
theorem k_s_X3_houseAt : GoodIn lw_tbl v_s_X3_houseAt := gd_c (List.mem_of_getElem? (i := 1118) (by decide +kernel)) rfl (goodIn_app (gd_c (List.mem_of_getElem? (i := 363) (by decide +kernel)) rfl (gd_c (List.mem_of_getElem? (i := 360) (by decide +kernel)) rfl (gd_nil))) (goodIn_app kfX3 (gd_nil)))
set_option maxHeartbeats 2000000 in
set_option maxRecDepth 100000 in
theorem c_s_X3_houseAt (l : Launch) (dC : Nat → ClassId) (dI : Nat → Nat → Nat) (cB cI cJ cZ cP : ClassId) (h0 : Nat) (h1 : Nat) (g0 : Nat → Int32) (hg0 : rgA (0) (8) g0) (a0 : Int32) (ha0 : rg (-1) (9) a0) (p0 : Int32) (sz : Nat) : Met l yX3_houseAt v_s_X3_houseAt ({ frames := 0, cells := 0, slots := 0, locals := 0 }) (va_Pc [.ref h0, .int p0] (fun U => U.heap.size = sz ∧ va_P (dC, dI) vwCl [(h0, .inr (3, [.ref h1, .int a0])), (h1, .inl (cI, 9, .inl g0))] U.heap ∧ va_K (dC, dI) vwCl (ty5 cB cI cJ cZ cP) U ∧ va_D (fun _ => True) [(h0, .inr (3, [.ref h1, .int a0])), (h1, .inl (cI, 9, .inl g0))])) (va_Qi (fun (r : Int32) (u9 : Unit) => rg (-1) (8) r) (fun u9 t => va_P (dC, dI) vwCl [(h0, .inr (3, [.ref h1, .int a0])), (h1, .inl (cI, 9, .inl g0))] t.heap ∧ va_D (va_A [(h0, .inr (3, [.ref h1, .int a0])), (h1, .inl (cI, 9, .inl g0))] sz) [(h0, .inr (3, [.ref h1, .int a0])), (h1, .inl (cI, 9, .inl g0))]) (va_A [(h0, .inr (3, [.ref h1, .int a0])), (h1, .inl (cI, 9, .inl g0))] sz)) 0 0 (va_A [(h0, .inr (3, [.ref h1, .int a0])), (h1, .inl (cI, 9, .inl g0))] sz) := by
  refine Met.ofW (cc := cX3_houseAt) (maxL := 2) (ret := (some .int)) (by decide) rfl ?_
  intro p e s m args below meth c s₁ B hml hv
  obtain ⟨rfl, hsz, hP, hK, hD0⟩ := hv
  have hx := B.exec
  have hb := B.bytes
  have hr := B.returns
  have hts := atoms_spec (ws := v_s_X3_houseAt) B.pre
  have hown : s.vm.findClass RX3 = some m.cls := findClass_of_methodNamed B.named
  have hlocks := B.notSynchronized
  have hinX3 : ∀ w ∈ wsX30, w ∈ v_s_X3_houseAt := fun _ h => List.mem_cons_of_mem _ (List.mem_append_right _ (List.mem_append_left _ h))
  subst hsz
  have hD := hD0.self (sz := s.heap.size)
  generalize hAe : va_A [(h0, .inr (3, [.ref h1, .int a0])), (h1, .inl (cI, 9, .inl g0))] s.heap.size = A at hD ⊢
  have hA : ∀ q : Nat, s.heap.size ≤ q → A q := fun q h => by rw [← hAe]; exact Or.inr h
  have hP : va_P (dC, dI) vwCl [(h0, .inr (3, [.ref h1, .int a0])), (h1, .inl (cI, 9, .inl g0))] s.heap := hP
  have hl := lv_entry ([.ref h0, .int p0]) (n := 2) (Nat.le_of_ble_eq_true rfl)
  rw [lg_entry_eq]
  generalize (lg_sl ([.ref h0, .int p0]) ++ List.replicate (2 - (lg_sl ([.ref h0, .int p0])).length) Slot.unset).toArray = ls at hl ⊢
  have hl : lv_has ls 2 [(0, .ref h0), (1, .int p0)] := hl
  refine W_gen (A := A) hP (fun H locs hP hS => ?_)
  refine lv_iload_n hx hb dX3_houseAt_0 rfl (lv_at hl 1 rfl) ?_
  refine lv_if_lt (tgt := 21) hx hb dX3_houseAt_1 (by decide) (fun c_1 => ?_) (fun c_1 => ?_)
  · skip
    have h_2 : rg (-2147483648) (-1) p0 := by have ha := (rg_any p0); have hb_ := (rg_k (x := 0) (c := 0) (by decide)); simp only [rg, fa_lt, fa_le, fa_eq, (by decide : (0 : Int32).toInt = 0)] at ha hb_ c_1; simp only [rg]; omega
    refine lv_iconst (v := (-1)) hx hb dX3_houseAt_21 (by decide) ?_
    have hP9 := hP.sub (ws' := [(h0, .inr (3, [.ref h1, .int a0])), (h1, .inl (cI, 9, .inl g0))]) [0, 1] rfl
    have hD9 := hD.sub (ws' := [(h0, .inr (3, [.ref h1, .int a0])), (h1, .inl (cI, 9, .inl g0))]) [0, 1] (by decide) rfl
    exact W.iret (v := (-1)) hx hb hr (fun t ht hW => ⟨⟨(-1), (), rfl, (rg_mono (rg_k (x := (-1)) (c := -1) (by decide)) (by decide) (by decide)), ⟨by rw [ht]; exact hP9, hD9⟩⟩, hS.F ht⟩) hS.2.2 dX3_houseAt_22
  · skip
    have h_3 : rg (0) (2147483647) p0 := by have ha := (rg_any p0); have hb_ := (rg_k (x := 0) (c := 0) (by decide)); simp only [rg, fa_lt, fa_le, fa_eq, (by decide : (0 : Int32).toInt = 0)] at ha hb_ c_1; simp only [rg]; omega
    refine lv_iload_n hx hb dX3_houseAt_4 rfl (lv_at hl 1 rfl) ?_
    refine lv_aload_n hx hb dX3_houseAt_5 rfl (lv_at hl 0 rfl) ?_
    refine va_get (D := (dC, dI)) (ci := 3) (v := .int a0) (C := RX3) (T := TX3) (N := 2) hx hb hts hinX3 hown hK hP 0 rfl rfl 1 (by decide) (hts (.fieldLink RX3 15 "MayRings$Order" "size" "I") (List.mem_of_getElem? (i := 1) rfl)) (fun _ h9 => h9) rfl dX3_houseAt_6 ?_
    refine lv_icmp_ge (tgt := 21) hx hb dX3_houseAt_9 (by decide) (fun c_4 => ?_) (fun c_4 => ?_)
    · skip
      refine lv_iconst (v := (-1)) hx hb dX3_houseAt_21 (by decide) ?_
      have hP9 := hP.sub (ws' := [(h0, .inr (3, [.ref h1, .int a0])), (h1, .inl (cI, 9, .inl g0))]) [0, 1] rfl
      have hD9 := hD.sub (ws' := [(h0, .inr (3, [.ref h1, .int a0])), (h1, .inl (cI, 9, .inl g0))]) [0, 1] (by decide) rfl
      exact W.iret (v := (-1)) hx hb hr (fun t ht hW => ⟨⟨(-1), (), rfl, (rg_mono (rg_k (x := (-1)) (c := -1) (by decide)) (by decide) (by decide)), ⟨by rw [ht]; exact hP9, hD9⟩⟩, hS.F ht⟩) hS.2.2 dX3_houseAt_22
    · skip
      have h_5 : rg (0) (8) p0 := by have ha := h_3; have hb_ := ha0; simp only [rg, fa_lt, fa_le, fa_eq] at ha hb_ c_4; simp only [rg]; omega
      have h_6 : rg (1) (9) a0 := by have ha := h_5; have hb_ := ha0; have hc_ := c_4; simp only [rg, fa_lt, fa_le, fa_eq] at ha hb_ hc_; simp only [rg]; omega
      have h_7 : rg (1) (9) a0 := by have ha := h_3; have hb_ := ha0; simp only [rg, fa_lt, fa_le, fa_eq] at ha hb_ c_4; simp only [rg]; omega
      refine lv_aload_n hx hb dX3_houseAt_12 rfl (lv_at hl 0 rfl) ?_
      refine va_get (D := (dC, dI)) (ci := 3) (v := .ref h1) (C := RX3) (T := TX3) (N := 2) hx hb hts hinX3 hown hK hP 0 rfl rfl 0 (by decide) (hts (.fieldLink RX3 9 "MayRings$Order" "houses" "[I") (List.mem_of_getElem? (i := 2) rfl)) (fun _ h9 => h9) rfl dX3_houseAt_13 ?_
      refine lv_iload_n hx hb dX3_houseAt_16 rfl (lv_at hl 1 rfl) ?_
      refine va_iald hx hb hK hP 1 1 rfl rfl (rg_in (n := 9) (rg_mono h_5 (by decide) (by decide))) dX3_houseAt_17 ?_
      refine lv_topi (fun x_8 ex_8 => ?_)
      have hx_8 : rg (0) (8) x_8 := by rw [ex_8]; exact rg_mono (hg0 _) (by decide) (by decide)
      refine lv_goto (tgt := 22) hx hb dX3_houseAt_18 (by decide) ?_
      have hP9 := hP.sub (ws' := [(h0, .inr (3, [.ref h1, .int a0])), (h1, .inl (cI, 9, .inl g0))]) [0, 1] rfl
      have hD9 := hD.sub (ws' := [(h0, .inr (3, [.ref h1, .int a0])), (h1, .inl (cI, 9, .inl g0))]) [0, 1] (by decide) rfl
      exact W.iret (v := x_8) hx hb hr (fun t ht hW => ⟨⟨x_8, (), rfl, (rg_mono hx_8 (by decide) (by decide)), ⟨by rw [ht]; exact hP9, hD9⟩⟩, hS.F ht⟩) hS.2.2 dX3_houseAt_22
def v_s_X4_ago : List Cond := Cond.code yX4_ago cX4_ago 4 (some .int) :: ([Cond.fieldLink RX4 9 "MayRings$Past" "met" "[I", Cond.fieldLink RX4 22 "MayRings$Past" "years" "I", Cond.methodLink RX4 55 Lib.Math.min.name, Cond.static Lib.Math.min.name, Cond.initialized RJ9, Cond.code Lib.Math.min.name Lib.Math.min.code 2 (some .int)] ++ (wsX40 ++ ([])))
theorem k_s_X4_ago : GoodIn lw_tbl v_s_X4_ago := gd_c (List.mem_of_getElem? (i := 798) (by decide +kernel)) rfl (goodIn_app (gd_c (List.mem_of_getElem? (i := 373) (by decide +kernel)) rfl (gd_c (List.mem_of_getElem? (i := 376) (by decide +kernel)) rfl (gd_c (List.mem_of_getElem? (i := 799) (by decide +kernel)) rfl (gd_c (List.mem_of_getElem? (i := 589) (by decide +kernel)) rfl (gd_c (List.mem_of_getElem? (i := 145) (by decide +kernel)) rfl (gd_c (List.mem_of_getElem? (i := 590) (by decide +kernel)) rfl (gd_nil))))))) (goodIn_app kfX4 (gd_nil)))
set_option maxHeartbeats 2000000 in
set_option maxRecDepth 100000 in
theorem c_s_X4_ago (l : Launch) (dC : Nat → ClassId) (dI : Nat → Nat → Nat) (cB cI cJ cZ cP : ClassId) (h0 : Nat) (h1 : Nat) (g0 : Nat → Int32) (h2 : Nat) (a1 : Int32) (a2 : Int32) (a3 : Int32) (a4 : Int32) (p0 : Int32) (hp0 : rg (0) (8) p0) (p1 : Int32) (hp1 : rg (0) (8) p1) (sz : Nat) : Met l yX4_ago v_s_X4_ago ({ frames := 1, cells := 0, slots := 0, locals := 30 }) (va_Pc [.ref h0, .int p0, .int p1] (fun U => U.heap.size = sz ∧ va_P (dC, dI) vwCl [(h0, .inr (4, [.ref h1, .ref h2, .int a1, .int a2, .int a3, .int a4])), (h1, .inl (cI, 81, .inl g0))] U.heap ∧ va_K (dC, dI) vwCl (ty5 cB cI cJ cZ cP) U ∧ va_D (fun _ => True) [(h0, .inr (4, [.ref h1, .ref h2, .int a1, .int a2, .int a3, .int a4])), (h1, .inl (cI, 81, .inl g0))])) (va_Qi (fun (r : Int32) (u9 : Unit) => rg (-2147483648) (99) r) (fun u9 t => va_P (dC, dI) vwCl [(h0, .inr (4, [.ref h1, .ref h2, .int a1, .int a2, .int a3, .int a4])), (h1, .inl (cI, 81, .inl g0))] t.heap ∧ va_D (va_A [(h0, .inr (4, [.ref h1, .ref h2, .int a1, .int a2, .int a3, .int a4])), (h1, .inl (cI, 81, .inl g0))] sz) [(h0, .inr (4, [.ref h1, .ref h2, .int a1, .int a2, .int a3, .int a4])), (h1, .inl (cI, 81, .inl g0))]) (va_A [(h0, .inr (4, [.ref h1, .ref h2, .int a1, .int a2, .int a3, .int a4])), (h1, .inl (cI, 81, .inl g0))] sz)) 0 0 (va_A [(h0, .inr (4, [.ref h1, .ref h2, .int a1, .int a2, .int a3, .int a4])), (h1, .inl (cI, 81, .inl g0))] sz) := by
  refine Met.ofW (cc := cX4_ago) (maxL := 4) (ret := (some .int)) (by decide) rfl ?_
  intro p e s m args below meth c s₁ B hml hv
  obtain ⟨rfl, hsz, hP, hK, hD0⟩ := hv
  have hx := B.exec
  have hb := B.bytes
  have hr := B.returns
  have hts := atoms_spec (ws := v_s_X4_ago) B.pre
  have hown : s.vm.findClass RX4 = some m.cls := findClass_of_methodNamed B.named
  have hlocks := B.notSynchronized
  have hinX4 : ∀ w ∈ wsX40, w ∈ v_s_X4_ago := fun _ h => List.mem_cons_of_mem _ (List.mem_append_right _ (List.mem_append_left _ h))
  subst hsz
  have hD := hD0.self (sz := s.heap.size)
  generalize hAe : va_A [(h0, .inr (4, [.ref h1, .ref h2, .int a1, .int a2, .int a3, .int a4])), (h1, .inl (cI, 81, .inl g0))] s.heap.size = A at hD ⊢
  have hA : ∀ q : Nat, s.heap.size ≤ q → A q := fun q h => by rw [← hAe]; exact Or.inr h
  have hP : va_P (dC, dI) vwCl [(h0, .inr (4, [.ref h1, .ref h2, .int a1, .int a2, .int a3, .int a4])), (h1, .inl (cI, 81, .inl g0))] s.heap := hP
  have hl := lv_entry ([.ref h0, .int p0, .int p1]) (n := 4) (Nat.le_of_ble_eq_true rfl)
  rw [lg_entry_eq]
  generalize (lg_sl ([.ref h0, .int p0, .int p1]) ++ List.replicate (4 - (lg_sl ([.ref h0, .int p0, .int p1])).length) Slot.unset).toArray = ls at hl ⊢
  have hl : lv_has ls 4 [(0, .ref h0), (1, .int p0), (2, .int p1)] := hl
  refine W_gen (A := A) hP (fun H locs hP hS => ?_)
  refine lv_aload_n hx hb dX4_ago_0 rfl (lv_at hl 0 rfl) ?_
  refine va_get (D := (dC, dI)) (ci := 4) (v := .ref h1) (C := RX4) (T := TX4) (N := 6) hx hb hts hinX4 hown hK hP 0 rfl rfl 0 (by decide) (hts (.fieldLink RX4 9 "MayRings$Past" "met" "[I") (List.mem_of_getElem? (i := 1) rfl)) (fun _ h9 => h9) rfl dX4_ago_1 ?_
  refine lv_iload_n hx hb dX4_ago_4 rfl (lv_at hl 1 rfl) ?_
  refine lv_bipush (v := 9) hx hb dX4_ago_5 (by decide) ?_
  refine lv_imul hx hb dX4_ago_7 ?_
  refine lv_topi (fun x_1 ex_1 => ?_)
  have hx_1 : rg (0) (72) x_1 := by rw [ex_1]; exact rg_mono (rg_mul hp0 (rg_k (x := 9) (c := 9) (by decide)) (by decide) (by decide) (by decide)) (by decide) (by decide)
  refine lv_iload_n hx hb dX4_ago_8 rfl (lv_at hl 2 rfl) ?_
  refine lv_iadd hx hb dX4_ago_9 ?_
  refine lv_topi (fun x_2 ex_2 => ?_)
  have hx_2 : rg (0) (80) x_2 := by rw [ex_2]; exact rg_mono (rg_add hx_1 hp1 (by decide) (by decide)) (by decide) (by decide)
  have qx_2 : x_2.toInt = x_1.toInt + p1.toInt := by rw [ex_2]; exact rg_addQ hx_1 hp1 (by decide) (by decide)
  refine va_iald hx hb hK hP 1 1 rfl rfl (rg_in (n := 81) (rg_mono hx_2 (by decide) (by decide))) dX4_ago_10 ?_
  refine lv_topi (fun x_3 ex_3 => ?_)
  refine lv_istore_n (lv' := [(3, .int x_3), (0, .ref h0), (1, .int p0), (2, .int p1)]) hx hb dX4_ago_11 rfl hl (by decide) rfl (fun ls hl => ?_)
  refine lv_iload_n hx hb dX4_ago_12 rfl (lv_at hl 0 rfl) ?_
  refine lv_if_ne (tgt := 21) hx hb dX4_ago_13 (by decide) (fun c_4 => ?_) (fun c_4 => ?_)
  · skip
    refine lv_bipush (v := 99) hx hb dX4_ago_21 (by decide) ?_
    refine lv_aload_n hx hb dX4_ago_23 rfl (lv_at hl 1 rfl) ?_
    refine va_get (D := (dC, dI)) (ci := 4) (v := .int a1) (C := RX4) (T := TX4) (N := 6) hx hb hts hinX4 hown hK hP 0 rfl rfl 2 (by decide) (hts (.fieldLink RX4 22 "MayRings$Past" "years" "I") (List.mem_of_getElem? (i := 2) rfl)) (fun _ h9 => h9) rfl dX4_ago_24 ?_
    refine lv_iload_n hx hb dX4_ago_27 rfl (lv_at hl 0 rfl) ?_
    refine lv_isub hx hb dX4_ago_28 ?_
    refine lv_topi (fun x_5 ex_5 => ?_)
    refine lv_iconst (v := 1) hx hb dX4_ago_29 (by decide) ?_
    refine lv_iadd hx hb dX4_ago_30 ?_
    refine lv_topi (fun x_6 ex_6 => ?_)
    refine va_mmin hx hb (by rw [hml]; exact hl.1.symm) hown (hts (.methodLink RX4 55 Lib.Math.min.name) (List.mem_of_getElem? (i := 3) rfl)) (hts (.static Lib.Math.min.name) (List.mem_of_getElem? (i := 4) rfl)) (hts (.initialized RJ9) (List.mem_of_getElem? (i := 5) rfl)) (hts (.code Lib.Math.min.name Lib.Math.min.code 2 (some .int)) (List.mem_of_getElem? (i := 6) rfl)) (Nat.le_of_ble_eq_true rfl) (Nat.le_of_ble_eq_true rfl) (Nat.le_of_ble_eq_true rfl) (Nat.le_of_ble_eq_true rfl) dX4_ago_31 ?_
    refine lv_topi (fun x_7 ex_7 => ?_)
    have hx_7 : rg (-2147483648) (99) x_7 := by rw [ex_7]; exact rg_mono (rg_min (rg_k (x := 99) (c := 99) (by decide)) (rg_any x_6)) (by decide) (by decide)
    clear ex_7
    have hP9 := hP.sub (ws' := [(h0, .inr (4, [.ref h1, .ref h2, .int a1, .int a2, .int a3, .int a4])), (h1, .inl (cI, 81, .inl g0))]) [0, 1] rfl
    have hD9 := hD.sub (ws' := [(h0, .inr (4, [.ref h1, .ref h2, .int a1, .int a2, .int a3, .int a4])), (h1, .inl (cI, 81, .inl g0))]) [0, 1] (by decide) rfl
    exact W.iret (v := x_7) hx hb hr (fun t ht hW => ⟨⟨x_7, (), rfl, (rg_mono hx_7 (by decide) (by decide)), ⟨by rw [ht]; exact hP9, hD9⟩⟩, hS.F ht⟩) hS.2.2 dX4_ago_34
  · skip
    have h_8 : rg (0) (0) x_3 := by have ha := (rg_any x_3); have hb_ := (rg_k (x := 0) (c := 0) (by decide)); simp only [rg, fa_lt, fa_le, fa_eq, (by decide : (0 : Int32).toInt = 0)] at ha hb_ c_4; simp only [rg]; omega
    refine lv_bipush (v := 99) hx hb dX4_ago_16 (by decide) ?_
    refine lv_goto (tgt := 34) hx hb dX4_ago_18 (by decide) ?_
    have hP9 := hP.sub (ws' := [(h0, .inr (4, [.ref h1, .ref h2, .int a1, .int a2, .int a3, .int a4])), (h1, .inl (cI, 81, .inl g0))]) [0, 1] rfl
    have hD9 := hD.sub (ws' := [(h0, .inr (4, [.ref h1, .ref h2, .int a1, .int a2, .int a3, .int a4])), (h1, .inl (cI, 81, .inl g0))]) [0, 1] (by decide) rfl
    exact W.iret (v := 99) hx hb hr (fun t ht hW => ⟨⟨99, (), rfl, (rg_mono (rg_k (x := 99) (c := 99) (by decide)) (by decide) (by decide)), ⟨by rw [ht]; exact hP9, hD9⟩⟩, hS.F ht⟩) hS.2.2 dX4_ago_34
def v_s_X4_clear : List Cond := Cond.code yX4_clear cX4_clear 1 none :: ([Cond.fieldLink RX4 9 "MayRings$Past" "met" "[I", Cond.methodLink RX4 36 yJ7_fill_53178, Cond.static yJ7_fill_53178, Cond.initialized RJ7, Cond.fieldLink RX4 18 "MayRings$Past" "standing" "LMayRings$Order;", Cond.fieldLink RX4 42 "MayRings$Order" "size" "I", Cond.fieldLink RX4 22 "MayRings$Past" "years" "I", Cond.fieldLink RX4 26 "MayRings$Past" "out" "I"] ++ (wsX30 ++ (wsX40 ++ (v_fill ++ ([])))))
theorem k_s_X4_clear : GoodIn lw_tbl v_s_X4_clear := gd_c (List.mem_of_getElem? (i := 784) (by decide +kernel)) rfl (goodIn_app (gd_c (List.mem_of_getElem? (i := 373) (by decide +kernel)) rfl (gd_c (List.mem_of_getElem? (i := 785) (by decide +kernel)) rfl (gd_c (List.mem_of_getElem? (i := 208) (by decide +kernel)) rfl (gd_c (List.mem_of_getElem? (i := 134) (by decide +kernel)) rfl (gd_c (List.mem_of_getElem? (i := 374) (by decide +kernel)) rfl (gd_c (List.mem_of_getElem? (i := 365) (by decide +kernel)) rfl (gd_c (List.mem_of_getElem? (i := 376) (by decide +kernel)) rfl (gd_c (List.mem_of_getElem? (i := 378) (by decide +kernel)) rfl (gd_nil))))))))) (goodIn_app kfX3 (goodIn_app kfX4 (goodIn_app k_fill (gd_nil)))))
set_option maxHeartbeats 2000000 in
set_option maxRecDepth 100000 in
theorem c_s_X4_clear (l : Launch) (dC : Nat → ClassId) (dI : Nat → Nat → Nat) (cB cI cJ cZ cP : ClassId) (h0 : Nat) (h1 : Nat) (g0 : Nat → Int32) (h2 : Nat) (h3 : Nat) (a0 : Int32) (a1 : Int32) (a2 : Int32) (a3 : Int32) (a4 : Int32) (sz : Nat) : Met l yX4_clear v_s_X4_clear ({ frames := 1, cells := 0, slots := 0, locals := 23 }) (va_Pc [.ref h0] (fun U => U.heap.size = sz ∧ va_P (dC, dI) vwCl [(h0, .inr (4, [.ref h1, .ref h2, .int a1, .int a2, .int a3, .int a4])), (h1, .inl (cI, 81, .inl g0)), (h2, .inr (3, [.ref h3, .int a0]))] U.heap ∧ va_K (dC, dI) vwCl (ty5 cB cI cJ cZ cP) U ∧ va_D (fun _ => True) [(h0, .inr (4, [.ref h1, .ref h2, .int a1, .int a2, .int a3, .int a4])), (h1, .inl (cI, 81, .inl g0)), (h2, .inr (3, [.ref h3, .int a0]))])) (va_Qv (fun _ : Unit => True) (fun _ t => ∃ (z0 : Nat → Int32), va_P (dC, dI) vwCl [(h0, .inr (4, [.ref h1, .ref h2, .int 0, .int 0, .int a3, .int a4])), (h1, .inl (cI, 81, .inl z0)), (h2, .inr (3, [.ref h3, .int 0]))] t.heap ∧ va_D (va_A [(h0, .inr (4, [.ref h1, .ref h2, .int a1, .int a2, .int a3, .int a4])), (h1, .inl (cI, 81, .inl g0)), (h2, .inr (3, [.ref h3, .int a0]))] sz) [(h0, .inr (4, [.ref h1, .ref h2, .int 0, .int 0, .int a3, .int a4])), (h1, .inl (cI, 81, .inl z0)), (h2, .inr (3, [.ref h3, .int 0]))]) (va_A [(h0, .inr (4, [.ref h1, .ref h2, .int a1, .int a2, .int a3, .int a4])), (h1, .inl (cI, 81, .inl g0)), (h2, .inr (3, [.ref h3, .int a0]))] sz)) 0 0 (va_A [(h0, .inr (4, [.ref h1, .ref h2, .int a1, .int a2, .int a3, .int a4])), (h1, .inl (cI, 81, .inl g0)), (h2, .inr (3, [.ref h3, .int a0]))] sz) := by
  refine Met.ofW (cc := cX4_clear) (maxL := 1) (ret := none) (by decide) rfl ?_
  intro p e s m args below meth c s₁ B hml hv
  obtain ⟨rfl, hsz, hP, hK, hD0⟩ := hv
  have hx := B.exec
  have hb := B.bytes
  have hr := B.returns
  have hts := atoms_spec (ws := v_s_X4_clear) B.pre
  have hown : s.vm.findClass RX4 = some m.cls := findClass_of_methodNamed B.named
  have hlocks := B.notSynchronized
  have hinX3 : ∀ w ∈ wsX30, w ∈ v_s_X4_clear := fun _ h => List.mem_cons_of_mem _ (List.mem_append_right _ (List.mem_append_left _ h))
  have hinX4 : ∀ w ∈ wsX40, w ∈ v_s_X4_clear := fun _ h => List.mem_cons_of_mem _ (List.mem_append_right _ (List.mem_append_right _ (List.mem_append_left _ h)))
  subst hsz
  have hD := hD0.self (sz := s.heap.size)
  generalize hAe : va_A [(h0, .inr (4, [.ref h1, .ref h2, .int a1, .int a2, .int a3, .int a4])), (h1, .inl (cI, 81, .inl g0)), (h2, .inr (3, [.ref h3, .int a0]))] s.heap.size = A at hD ⊢
  have hA : ∀ q : Nat, s.heap.size ≤ q → A q := fun q h => by rw [← hAe]; exact Or.inr h
  have hP : va_P (dC, dI) vwCl [(h0, .inr (4, [.ref h1, .ref h2, .int a1, .int a2, .int a3, .int a4])), (h1, .inl (cI, 81, .inl g0)), (h2, .inr (3, [.ref h3, .int a0]))] s.heap := hP
  have hl := lv_entry ([.ref h0]) (n := 1) (Nat.le_of_ble_eq_true rfl)
  rw [lg_entry_eq]
  generalize (lg_sl ([.ref h0]) ++ List.replicate (1 - (lg_sl ([.ref h0])).length) Slot.unset).toArray = ls at hl ⊢
  have hl : lv_has ls 1 [(0, .ref h0)] := hl
  refine W_gen (A := A) hP (fun H locs hP hS => ?_)
  refine lv_aload_n hx hb dX4_clear_0 rfl (lv_at hl 0 rfl) ?_
  refine va_get (D := (dC, dI)) (ci := 4) (v := .ref h1) (C := RX4) (T := TX4) (N := 6) hx hb hts hinX4 hown hK hP 0 rfl rfl 0 (by decide) (hts (.fieldLink RX4 9 "MayRings$Past" "met" "[I") (List.mem_of_getElem? (i := 1) rfl)) (fun _ h9 => h9) rfl dX4_clear_1 ?_
  refine lv_iconst (v := 0) hx hb dX4_clear_4 (by decide) ?_
  have hPc := hP.sub (ws' := [(h1, .inl (cI, 81, .inl g0))]) [1] rfl
  have hDc := hD.sub (ws' := [(h1, .inl (cI, 81, .inl g0))]) [1] (by decide) rfl
  have hFc := va_free (wc := [(h1, .inl (cI, 81, .inl g0))]) hD hS hA [1] rfl
  refine va_callv (va_runS (As := [.ref h1, .int 0]) (rest := []) ⟨hx, hb, hml, hown, hts⟩ (c_fill l dC dI cB cI cJ cZ cP h1 81 g0 0 (by decide) H.size) (va_cwS 2 hts (gd_S (List.mem_of_getElem? (i := 2) rfl) (List.mem_of_getElem? (i := 3) rfl) (List.mem_of_getElem? (i := 4) rfl) (gd_mono k_fill (fun _ h => List.mem_cons_of_mem _ (List.mem_append_right _ (List.mem_append_right _ (List.mem_append_right _ (List.mem_append_left _ h))))))) rfl rfl rfl (by decide +kernel) ⟨Nat.le_of_ble_eq_true rfl, Nat.le_of_ble_eq_true rfl⟩) ⟨fun a U g mk q => by obtain ⟨q0, q1, qP, qK, qD⟩ := q; exact ⟨q0, q1, qP, va_K.moved (u := U) (U := U.calling g mk a) (Vm.Alike.refl U.vm) qK, qD⟩, fun U hU hW => ⟨rfl, by rw [hU], by rw [hU]; exact hPc, va_K.moved hW.alike hK, hDc.weaken (fun _ _ _ _ => trivial)⟩⟩ rfl rfl hl.1 rfl (lv_room (Nat.le_of_ble_eq_true rfl)) dX4_clear_5 ⟨Nat.le_of_ble_eq_true rfl, Nat.le_of_ble_eq_true rfl⟩) hS (fun q _ h => hFc q h) hFc (fun u t H1 locs ht hvm hw hB hz1 hk1 hS => ?_)
  obtain ⟨f_2, ef_2, hP1, hD1⟩ := hB
  rw [ht] at hP1
  obtain ⟨hP, hD⟩ := va_join (wr := [(h0, .inr (4, [.ref h1, .ref h2, .int a1, .int a2, .int a3, .int a4])), (h2, .inr (3, [.ref h3, .int a0]))]) (w1 := [(h1, .inl (cI, 81, .inl f_2))]) hP hD [1] [0, 2] rfl rfl (by decide) (by decide) hk1 hFc hP1 hD1
  generalize H1 = H at hP hS ⊢
  clear ef_2
  replace hP : va_P (dC, dI) vwCl [(h0, .inr (4, [.ref h1, .ref h2, .int a1, .int a2, .int a3, .int a4])), (h2, .inr (3, [.ref h3, .int a0])), (h1, .inl (cI, 81, .inl f_2))] H := hP
  replace hD : va_D A [(h0, .inr (4, [.ref h1, .ref h2, .int a1, .int a2, .int a3, .int a4])), (h2, .inr (3, [.ref h3, .int a0])), (h1, .inl (cI, 81, .inl f_2))] := hD
  refine lv_aload_n hx hb dX4_clear_8 rfl (lv_at hl 0 rfl) ?_
  refine va_get (D := (dC, dI)) (ci := 4) (v := .ref h2) (C := RX4) (T := TX4) (N := 6) hx hb hts hinX4 hown hK hP 0 rfl rfl 1 (by decide) (hts (.fieldLink RX4 18 "MayRings$Past" "standing" "LMayRings$Order;") (List.mem_of_getElem? (i := 5) rfl)) (fun _ h9 => h9) rfl dX4_clear_9 ?_
  refine lv_iconst (v := 0) hx hb dX4_clear_12 (by decide) ?_
  refine va_put (D := (dC, dI)) (ci := 3) (v := .int 0) (ty := .int) (C := RX3) (T := TX3) (N := 2) hx hb hts hinX3 tyX3 tyX3_ok nmX3 hown hK hP hD hS 1 rfl rfl 1 (by decide) (hts (.fieldLink RX4 42 "MayRings$Order" "size" "I") (List.mem_of_getElem? (i := 6) rfl)) (fun _ h9 => h9) rfl (by decide +kernel) (rfl) (rfl) (Nat.le_of_ble_eq_true rfl) dX4_clear_13 (fun H locs hP hD hS => ?_)
  replace hP : va_P (dC, dI) vwCl [(h0, .inr (4, [.ref h1, .ref h2, .int a1, .int a2, .int a3, .int a4])), (h2, .inr (3, [.ref h3, .int 0])), (h1, .inl (cI, 81, .inl f_2))] H := hP
  replace hD : va_D A [(h0, .inr (4, [.ref h1, .ref h2, .int a1, .int a2, .int a3, .int a4])), (h2, .inr (3, [.ref h3, .int 0])), (h1, .inl (cI, 81, .inl f_2))] := hD
  refine lv_aload_n hx hb dX4_clear_16 rfl (lv_at hl 0 rfl) ?_
  refine lv_iconst (v := 0) hx hb dX4_clear_17 (by decide) ?_
  refine va_put (D := (dC, dI)) (ci := 4) (v := .int 0) (ty := .int) (C := RX4) (T := TX4) (N := 6) hx hb hts hinX4 tyX4 tyX4_ok nmX4 hown hK hP hD hS 0 rfl rfl 2 (by decide) (hts (.fieldLink RX4 22 "MayRings$Past" "years" "I") (List.mem_of_getElem? (i := 7) rfl)) (fun _ h9 => h9) rfl (by decide +kernel) (rfl) (rfl) (Nat.le_of_ble_eq_true rfl) dX4_clear_18 (fun H locs hP hD hS => ?_)
  replace hP : va_P (dC, dI) vwCl [(h0, .inr (4, [.ref h1, .ref h2, .int 0, .int a2, .int a3, .int a4])), (h2, .inr (3, [.ref h3, .int 0])), (h1, .inl (cI, 81, .inl f_2))] H := hP
  replace hD : va_D A [(h0, .inr (4, [.ref h1, .ref h2, .int 0, .int a2, .int a3, .int a4])), (h2, .inr (3, [.ref h3, .int 0])), (h1, .inl (cI, 81, .inl f_2))] := hD
  refine lv_aload_n hx hb dX4_clear_21 rfl (lv_at hl 0 rfl) ?_
  refine lv_iconst (v := 0) hx hb dX4_clear_22 (by decide) ?_
  refine va_put (D := (dC, dI)) (ci := 4) (v := .int 0) (ty := .int) (C := RX4) (T := TX4) (N := 6) hx hb hts hinX4 tyX4 tyX4_ok nmX4 hown hK hP hD hS 0 rfl rfl 3 (by decide) (hts (.fieldLink RX4 26 "MayRings$Past" "out" "I") (List.mem_of_getElem? (i := 8) rfl)) (fun _ h9 => h9) rfl (by decide +kernel) (rfl) (rfl) (Nat.le_of_ble_eq_true rfl) dX4_clear_23 (fun H locs hP hD hS => ?_)
  replace hP : va_P (dC, dI) vwCl [(h0, .inr (4, [.ref h1, .ref h2, .int 0, .int 0, .int a3, .int a4])), (h2, .inr (3, [.ref h3, .int 0])), (h1, .inl (cI, 81, .inl f_2))] H := hP
  replace hD : va_D A [(h0, .inr (4, [.ref h1, .ref h2, .int 0, .int 0, .int a3, .int a4])), (h2, .inr (3, [.ref h3, .int 0])), (h1, .inl (cI, 81, .inl f_2))] := hD
  have hP9 := hP.sub (ws' := [(h0, .inr (4, [.ref h1, .ref h2, .int 0, .int 0, .int a3, .int a4])), (h1, .inl (cI, 81, .inl f_2)), (h2, .inr (3, [.ref h3, .int 0]))]) [0, 2, 1] rfl
  have hD9 := hD.sub (ws' := [(h0, .inr (4, [.ref h1, .ref h2, .int 0, .int 0, .int a3, .int a4])), (h1, .inl (cI, 81, .inl f_2)), (h2, .inr (3, [.ref h3, .int 0]))]) [0, 2, 1] (by decide) rfl
  exact W.vret hx hb hr (fun t ht hW => ⟨⟨(), rfl, trivial, ⟨f_2, by rw [ht]; exact hP9, hD9⟩⟩, hS.F ht⟩) hS.2.2 dX4_clear_26
def v_s_X4_copy : List Cond := Cond.code yX4_copy cX4_copy 2 none :: ([Cond.fieldLink RX4 9 "MayRings$Past" "met" "[I", Cond.methodLink RX4 45 arraycopyName, Cond.native arraycopyName, Cond.static arraycopyName, Cond.initialized RJ10, Cond.fieldLink RX4 18 "MayRings$Past" "standing" "LMayRings$Order;", Cond.methodLink RX4 51 yX3_copy, Cond.instanceMethod yX3_copy, Cond.selects RX3 yX3_copy yX3_copy, Cond.initialized RX3, Cond.fieldLink RX4 22 "MayRings$Past" "years" "I", Cond.fieldLink RX4 26 "MayRings$Past" "out" "I", Cond.fieldLink RX4 29 "MayRings$Past" "w" "I"] ++ (wsX40 ++ (v_s_X3_copy ++ ([]))))
theorem k_s_X4_copy : GoodIn lw_tbl v_s_X4_copy := gd_c (List.mem_of_getElem? (i := 1206) (by decide +kernel)) rfl (goodIn_app (gd_c (List.mem_of_getElem? (i := 373) (by decide +kernel)) rfl (gd_c (List.mem_of_getElem? (i := 1207) (by decide +kernel)) rfl (gd_c (List.mem_of_getElem? (i := 1129) (by decide +kernel)) rfl (gd_c (List.mem_of_getElem? (i := 1128) (by decide +kernel)) rfl (gd_c (List.mem_of_getElem? (i := 148) (by decide +kernel)) rfl (gd_c (List.mem_of_getElem? (i := 374) (by decide +kernel)) rfl (gd_c (List.mem_of_getElem? (i := 1208) (by decide +kernel)) rfl (gd_c (List.mem_of_getElem? (i := 1124) (by decide +kernel)) rfl (gd_c (List.mem_of_getElem? (i := 1125) (by decide +kernel)) rfl (gd_c (List.mem_of_getElem? (i := 140) (by decide +kernel)) rfl (gd_c (List.mem_of_getElem? (i := 376) (by decide +kernel)) rfl (gd_c (List.mem_of_getElem? (i := 378) (by decide +kernel)) rfl (gd_c (List.mem_of_getElem? (i := 380) (by decide +kernel)) rfl (gd_nil)))))))))))))) (goodIn_app kfX4 (goodIn_app k_s_X3_copy (gd_nil))))
set_option maxHeartbeats 2000000 in
set_option maxRecDepth 100000 in
theorem c_s_X4_copy (l : Launch) (dC : Nat → ClassId) (dI : Nat → Nat → Nat) (cB cI cJ cZ cP : ClassId) (h0 : Nat) (h1 : Nat) (g0 : Nat → Int32) (h2 : Nat) (h3 : Nat) (g1 : Nat → Int32) (hg1 : rgA (0) (8) g1) (a0 : Int32) (a1 : Int32) (a2 : Int32) (a3 : Int32) (a4 : Int32) (h4 : Nat) (h5 : Nat) (g2 : Nat → Int32) (h6 : Nat) (h7 : Nat) (g3 : Nat → Int32) (hg3 : rgA (0) (8) g3) (a5 : Int32) (a6 : Int32) (a7 : Int32) (a8 : Int32) (a9 : Int32) (sz : Nat) : Met l yX4_copy v_s_X4_copy ({ frames := 2, cells := 0, slots := 0, locals := 101 }) (va_Pc [.ref h0, .ref h4] (fun U => U.heap.size = sz ∧ va_P (dC, dI) vwCl [(h0, .inr (4, [.ref h1, .ref h2, .int a1, .int a2, .int a3, .int a4])), (h1, .inl (cI, 81, .inl g0)), (h2, .inr (3, [.ref h3, .int a0])), (h3, .inl (cI, 9, .inl g1)), (h4, .inr (4, [.ref h5, .ref h6, .int a6, .int a7, .int a8, .int a9])), (h5, .inl (cI, 81, .inl g2)), (h6, .inr (3, [.ref h7, .int a5])), (h7, .inl (cI, 9, .inl g3))] U.heap ∧ va_K (dC, dI) vwCl (ty5 cB cI cJ cZ cP) U ∧ va_D (fun _ => True) [(h0, .inr (4, [.ref h1, .ref h2, .int a1, .int a2, .int a3, .int a4])), (h1, .inl (cI, 81, .inl g0)), (h2, .inr (3, [.ref h3, .int a0])), (h3, .inl (cI, 9, .inl g1)), (h4, .inr (4, [.ref h5, .ref h6, .int a6, .int a7, .int a8, .int a9])), (h5, .inl (cI, 81, .inl g2)), (h6, .inr (3, [.ref h7, .int a5])), (h7, .inl (cI, 9, .inl g3))])) (va_Qv (fun _ : Unit => True) (fun _ t => ∃ (z0 : Nat → Int32) (z1 : Nat → Int32), rgA (0) (8) z1 ∧ va_P (dC, dI) vwCl [(h0, .inr (4, [.ref h1, .ref h2, .int a6, .int a7, .int a8, .int a4])), (h1, .inl (cI, 81, .inl z0)), (h2, .inr (3, [.ref h3, .int a5])), (h3, .inl (cI, 9, .inl z1)), (h4, .inr (4, [.ref h5, .ref h6, .int a6, .int a7, .int a8, .int a9])), (h5, .inl (cI, 81, .inl g2)), (h6, .inr (3, [.ref h7, .int a5])), (h7, .inl (cI, 9, .inl g3))] t.heap ∧ va_D (va_A [(h0, .inr (4, [.ref h1, .ref h2, .int a1, .int a2, .int a3, .int a4])), (h1, .inl (cI, 81, .inl g0)), (h2, .inr (3, [.ref h3, .int a0])), (h3, .inl (cI, 9, .inl g1)), (h4, .inr (4, [.ref h5, .ref h6, .int a6, .int a7, .int a8, .int a9])), (h5, .inl (cI, 81, .inl g2)), (h6, .inr (3, [.ref h7, .int a5])), (h7, .inl (cI, 9, .inl g3))] sz) [(h0, .inr (4, [.ref h1, .ref h2, .int a6, .int a7, .int a8, .int a4])), (h1, .inl (cI, 81, .inl z0)), (h2, .inr (3, [.ref h3, .int a5])), (h3, .inl (cI, 9, .inl z1)), (h4, .inr (4, [.ref h5, .ref h6, .int a6, .int a7, .int a8, .int a9])), (h5, .inl (cI, 81, .inl g2)), (h6, .inr (3, [.ref h7, .int a5])), (h7, .inl (cI, 9, .inl g3))]) (va_A [(h0, .inr (4, [.ref h1, .ref h2, .int a1, .int a2, .int a3, .int a4])), (h1, .inl (cI, 81, .inl g0)), (h2, .inr (3, [.ref h3, .int a0])), (h3, .inl (cI, 9, .inl g1)), (h4, .inr (4, [.ref h5, .ref h6, .int a6, .int a7, .int a8, .int a9])), (h5, .inl (cI, 81, .inl g2)), (h6, .inr (3, [.ref h7, .int a5])), (h7, .inl (cI, 9, .inl g3))] sz)) 0 0 (va_A [(h0, .inr (4, [.ref h1, .ref h2, .int a1, .int a2, .int a3, .int a4])), (h1, .inl (cI, 81, .inl g0)), (h2, .inr (3, [.ref h3, .int a0])), (h3, .inl (cI, 9, .inl g1)), (h4, .inr (4, [.ref h5, .ref h6, .int a6, .int a7, .int a8, .int a9])), (h5, .inl (cI, 81, .inl g2)), (h6, .inr (3, [.ref h7, .int a5])), (h7, .inl (cI, 9, .inl g3))] sz) := by
  refine Met.ofW (cc := cX4_copy) (maxL := 2) (ret := none) (by decide) rfl ?_
  intro p e s m args below meth c s₁ B hml hv
  obtain ⟨rfl, hsz, hP, hK, hD0⟩ := hv
  have hx := B.exec
  have hb := B.bytes
  have hr := B.returns
  have hts := atoms_spec (ws := v_s_X4_copy) B.pre
  have hown : s.vm.findClass RX4 = some m.cls := findClass_of_methodNamed B.named
  have hlocks := B.notSynchronized
  have hinX4 : ∀ w ∈ wsX40, w ∈ v_s_X4_copy := fun _ h => List.mem_cons_of_mem _ (List.mem_append_right _ (List.mem_append_left _ h))
  subst hsz
  have hD := hD0.self (sz := s.heap.size)
  generalize hAe : va_A [(h0, .inr (4, [.ref h1, .ref h2, .int a1, .int a2, .int a3, .int a4])), (h1, .inl (cI, 81, .inl g0)), (h2, .inr (3, [.ref h3, .int a0])), (h3, .inl (cI, 9, .inl g1)), (h4, .inr (4, [.ref h5, .ref h6, .int a6, .int a7, .int a8, .int a9])), (h5, .inl (cI, 81, .inl g2)), (h6, .inr (3, [.ref h7, .int a5])), (h7, .inl (cI, 9, .inl g3))] s.heap.size = A at hD ⊢
  have hA : ∀ q : Nat, s.heap.size ≤ q → A q := fun q h => by rw [← hAe]; exact Or.inr h
  have hP : va_P (dC, dI) vwCl [(h0, .inr (4, [.ref h1, .ref h2, .int a1, .int a2, .int a3, .int a4])), (h1, .inl (cI, 81, .inl g0)), (h2, .inr (3, [.ref h3, .int a0])), (h3, .inl (cI, 9, .inl g1)), (h4, .inr (4, [.ref h5, .ref h6, .int a6, .int a7, .int a8, .int a9])), (h5, .inl (cI, 81, .inl g2)), (h6, .inr (3, [.ref h7, .int a5])), (h7, .inl (cI, 9, .inl g3))] s.heap := hP
  have hl := lv_entry ([.ref h0, .ref h4]) (n := 2) (Nat.le_of_ble_eq_true rfl)
  rw [lg_entry_eq]
  generalize (lg_sl ([.ref h0, .ref h4]) ++ List.replicate (2 - (lg_sl ([.ref h0, .ref h4])).length) Slot.unset).toArray = ls at hl ⊢
  have hl : lv_has ls 2 [(0, .ref h0), (1, .ref h4)] := hl
  refine W_gen (A := A) hP (fun H locs hP hS => ?_)
  refine lv_aload_n hx hb dX4_copy_0 rfl (lv_at hl 1 rfl) ?_
  refine va_get (D := (dC, dI)) (ci := 4) (v := .ref h5) (C := RX4) (T := TX4) (N := 6) hx hb hts hinX4 hown hK hP 4 rfl rfl 0 (by decide) (hts (.fieldLink RX4 9 "MayRings$Past" "met" "[I") (List.mem_of_getElem? (i := 1) rfl)) (fun _ h9 => h9) rfl dX4_copy_1 ?_
  refine lv_iconst (v := 0) hx hb dX4_copy_4 (by decide) ?_
  refine lv_aload_n hx hb dX4_copy_5 rfl (lv_at hl 0 rfl) ?_
  refine va_get (D := (dC, dI)) (ci := 4) (v := .ref h1) (C := RX4) (T := TX4) (N := 6) hx hb hts hinX4 hown hK hP 0 rfl rfl 0 (by decide) (hts (.fieldLink RX4 9 "MayRings$Past" "met" "[I") (List.mem_of_getElem? (i := 1) rfl)) (fun _ h9 => h9) rfl dX4_copy_6 ?_
  refine lv_iconst (v := 0) hx hb dX4_copy_9 (by decide) ?_
  refine lv_bipush (v := 81) hx hb dX4_copy_10 (by decide) ?_
  refine va_copyi hx hb (by rw [hml]; exact hl.1.symm) hown (hts (.methodLink RX4 45 arraycopyName) (List.mem_of_getElem? (i := 2) rfl)) (hts (.native arraycopyName) (List.mem_of_getElem? (i := 3) rfl)) (hts (.static arraycopyName) (List.mem_of_getElem? (i := 4) rfl)) (hts (.initialized RJ10) (List.mem_of_getElem? (i := 5) rfl)) hK hP hD hS 5 1 1 1 rfl rfl rfl rfl rfl (by decide) (by decide) (by decide) (by decide) (by decide) (fun _ _ => rfl) (Nat.le_of_ble_eq_true rfl) (Nat.le_of_ble_eq_true rfl) dX4_copy_12 (fun H locs hP hD hS => ?_)
  obtain ⟨f_1, ef_1⟩ : ∃ f : Nat → Int32, f = va_cpy g2 g0 (0 : Int32).toNatClampNeg (0 : Int32).toNatClampNeg (81 : Int32).toNatClampNeg := ⟨_, rfl⟩
  rw [← ef_1] at hP hD
  clear ef_1
  replace hP : va_P (dC, dI) vwCl [(h0, .inr (4, [.ref h1, .ref h2, .int a1, .int a2, .int a3, .int a4])), (h1, .inl (cI, 81, .inl f_1)), (h2, .inr (3, [.ref h3, .int a0])), (h3, .inl (cI, 9, .inl g1)), (h4, .inr (4, [.ref h5, .ref h6, .int a6, .int a7, .int a8, .int a9])), (h5, .inl (cI, 81, .inl g2)), (h6, .inr (3, [.ref h7, .int a5])), (h7, .inl (cI, 9, .inl g3))] H := hP
  replace hD : va_D A [(h0, .inr (4, [.ref h1, .ref h2, .int a1, .int a2, .int a3, .int a4])), (h1, .inl (cI, 81, .inl f_1)), (h2, .inr (3, [.ref h3, .int a0])), (h3, .inl (cI, 9, .inl g1)), (h4, .inr (4, [.ref h5, .ref h6, .int a6, .int a7, .int a8, .int a9])), (h5, .inl (cI, 81, .inl g2)), (h6, .inr (3, [.ref h7, .int a5])), (h7, .inl (cI, 9, .inl g3))] := hD
  refine lv_aload_n hx hb dX4_copy_15 rfl (lv_at hl 0 rfl) ?_
  refine va_get (D := (dC, dI)) (ci := 4) (v := .ref h2) (C := RX4) (T := TX4) (N := 6) hx hb hts hinX4 hown hK hP 0 rfl rfl 1 (by decide) (hts (.fieldLink RX4 18 "MayRings$Past" "standing" "LMayRings$Order;") (List.mem_of_getElem? (i := 6) rfl)) (fun _ h9 => h9) rfl dX4_copy_16 ?_
  refine lv_aload_n hx hb dX4_copy_19 rfl (lv_at hl 1 rfl) ?_
  refine va_get (D := (dC, dI)) (ci := 4) (v := .ref h6) (C := RX4) (T := TX4) (N := 6) hx hb hts hinX4 hown hK hP 4 rfl rfl 1 (by decide) (hts (.fieldLink RX4 18 "MayRings$Past" "standing" "LMayRings$Order;") (List.mem_of_getElem? (i := 6) rfl)) (fun _ h9 => h9) rfl dX4_copy_20 ?_
  have hPc := hP.sub (ws' := [(h2, .inr (3, [.ref h3, .int a0])), (h3, .inl (cI, 9, .inl g1)), (h6, .inr (3, [.ref h7, .int a5])), (h7, .inl (cI, 9, .inl g3))]) [2, 3, 6, 7] rfl
  have hDc := hD.sub (ws' := [(h2, .inr (3, [.ref h3, .int a0])), (h3, .inl (cI, 9, .inl g1)), (h6, .inr (3, [.ref h7, .int a5])), (h7, .inl (cI, 9, .inl g3))]) [2, 3, 6, 7] (by decide) rfl
  have hFc := va_free (wc := [(h2, .inr (3, [.ref h3, .int a0])), (h3, .inl (cI, 9, .inl g1)), (h6, .inr (3, [.ref h7, .int a5])), (h7, .inl (cI, 9, .inl g3))]) hD hS hA [2, 3, 6, 7] rfl
  refine va_callv (va_runV (As := [.ref h6]) (rest := []) ⟨hx, hb, hml, hown, hts⟩ (c_s_X3_copy l dC dI cB cI cJ cZ cP h2 h3 g1 hg1 a0 h6 h7 g3 hg3 a5 H.size) (cwV 1 hts (gd_V (List.mem_of_getElem? (i := 7) rfl) (List.mem_of_getElem? (i := 8) rfl) (List.mem_of_getElem? (i := 9) rfl) (List.mem_of_getElem? (i := 10) rfl) (gd_mono k_s_X3_copy (fun _ h => List.mem_cons_of_mem _ (List.mem_append_right _ (List.mem_append_right _ (List.mem_append_left _ h)))))) rfl rfl rfl (by decide +kernel) ⟨Nat.le_of_ble_eq_true rfl, Nat.le_of_ble_eq_true rfl⟩) ⟨fun a U g mk q => by obtain ⟨q0, q1, qP, qK, qD⟩ := q; exact ⟨q0, q1, qP, va_K.moved (u := U) (U := U.calling g mk a) (Vm.Alike.refl U.vm) qK, qD⟩, va_recv hK hPc (ci := 3) (q0 := 0) rfl rfl, fun U hU hW => ⟨rfl, by rw [hU], by rw [hU]; exact hPc, va_K.moved hW.alike hK, hDc.weaken (fun _ _ _ _ => trivial)⟩⟩ rfl rfl hl.1 rfl (lv_room (Nat.le_of_ble_eq_true rfl)) dX4_copy_23 ⟨Nat.le_of_ble_eq_true rfl, Nat.le_of_ble_eq_true rfl⟩) hS (fun q _ h => hFc q h) hFc (fun u t H1 locs ht hvm hw hB hz1 hk1 hS => ?_)
  obtain ⟨f_3, hf_3, hP1, hD1⟩ := hB
  rw [ht] at hP1
  obtain ⟨hP, hD⟩ := va_join (wr := [(h0, .inr (4, [.ref h1, .ref h2, .int a1, .int a2, .int a3, .int a4])), (h1, .inl (cI, 81, .inl f_1)), (h4, .inr (4, [.ref h5, .ref h6, .int a6, .int a7, .int a8, .int a9])), (h5, .inl (cI, 81, .inl g2))]) (w1 := [(h2, .inr (3, [.ref h3, .int a5])), (h3, .inl (cI, 9, .inl f_3)), (h6, .inr (3, [.ref h7, .int a5])), (h7, .inl (cI, 9, .inl g3))]) hP hD [2, 3, 6, 7] [0, 1, 4, 5] rfl rfl (by decide) (by decide) hk1 hFc hP1 hD1
  generalize H1 = H at hP hS ⊢
  replace hP : va_P (dC, dI) vwCl [(h0, .inr (4, [.ref h1, .ref h2, .int a1, .int a2, .int a3, .int a4])), (h1, .inl (cI, 81, .inl f_1)), (h4, .inr (4, [.ref h5, .ref h6, .int a6, .int a7, .int a8, .int a9])), (h5, .inl (cI, 81, .inl g2)), (h2, .inr (3, [.ref h3, .int a5])), (h3, .inl (cI, 9, .inl f_3)), (h6, .inr (3, [.ref h7, .int a5])), (h7, .inl (cI, 9, .inl g3))] H := hP
  replace hD : va_D A [(h0, .inr (4, [.ref h1, .ref h2, .int a1, .int a2, .int a3, .int a4])), (h1, .inl (cI, 81, .inl f_1)), (h4, .inr (4, [.ref h5, .ref h6, .int a6, .int a7, .int a8, .int a9])), (h5, .inl (cI, 81, .inl g2)), (h2, .inr (3, [.ref h3, .int a5])), (h3, .inl (cI, 9, .inl f_3)), (h6, .inr (3, [.ref h7, .int a5])), (h7, .inl (cI, 9, .inl g3))] := hD
  refine lv_aload_n hx hb dX4_copy_26 rfl (lv_at hl 0 rfl) ?_
  refine lv_aload_n hx hb dX4_copy_27 rfl (lv_at hl 1 rfl) ?_
  refine va_get (D := (dC, dI)) (ci := 4) (v := .int a6) (C := RX4) (T := TX4) (N := 6) hx hb hts hinX4 hown hK hP 2 rfl rfl 2 (by decide) (hts (.fieldLink RX4 22 "MayRings$Past" "years" "I") (List.mem_of_getElem? (i := 11) rfl)) (fun _ h9 => h9) rfl dX4_copy_28 ?_
  refine va_put (D := (dC, dI)) (ci := 4) (v := .int a6) (ty := .int) (C := RX4) (T := TX4) (N := 6) hx hb hts hinX4 tyX4 tyX4_ok nmX4 hown hK hP hD hS 0 rfl rfl 2 (by decide) (hts (.fieldLink RX4 22 "MayRings$Past" "years" "I") (List.mem_of_getElem? (i := 11) rfl)) (fun _ h9 => h9) rfl (by decide +kernel) (rfl) (rfl) (Nat.le_of_ble_eq_true rfl) dX4_copy_31 (fun H locs hP hD hS => ?_)
  replace hP : va_P (dC, dI) vwCl [(h0, .inr (4, [.ref h1, .ref h2, .int a6, .int a2, .int a3, .int a4])), (h1, .inl (cI, 81, .inl f_1)), (h4, .inr (4, [.ref h5, .ref h6, .int a6, .int a7, .int a8, .int a9])), (h5, .inl (cI, 81, .inl g2)), (h2, .inr (3, [.ref h3, .int a5])), (h3, .inl (cI, 9, .inl f_3)), (h6, .inr (3, [.ref h7, .int a5])), (h7, .inl (cI, 9, .inl g3))] H := hP
  replace hD : va_D A [(h0, .inr (4, [.ref h1, .ref h2, .int a6, .int a2, .int a3, .int a4])), (h1, .inl (cI, 81, .inl f_1)), (h4, .inr (4, [.ref h5, .ref h6, .int a6, .int a7, .int a8, .int a9])), (h5, .inl (cI, 81, .inl g2)), (h2, .inr (3, [.ref h3, .int a5])), (h3, .inl (cI, 9, .inl f_3)), (h6, .inr (3, [.ref h7, .int a5])), (h7, .inl (cI, 9, .inl g3))] := hD
  refine lv_aload_n hx hb dX4_copy_34 rfl (lv_at hl 0 rfl) ?_
  refine lv_aload_n hx hb dX4_copy_35 rfl (lv_at hl 1 rfl) ?_
  refine va_get (D := (dC, dI)) (ci := 4) (v := .int a7) (C := RX4) (T := TX4) (N := 6) hx hb hts hinX4 hown hK hP 2 rfl rfl 3 (by decide) (hts (.fieldLink RX4 26 "MayRings$Past" "out" "I") (List.mem_of_getElem? (i := 12) rfl)) (fun _ h9 => h9) rfl dX4_copy_36 ?_
  refine va_put (D := (dC, dI)) (ci := 4) (v := .int a7) (ty := .int) (C := RX4) (T := TX4) (N := 6) hx hb hts hinX4 tyX4 tyX4_ok nmX4 hown hK hP hD hS 0 rfl rfl 3 (by decide) (hts (.fieldLink RX4 26 "MayRings$Past" "out" "I") (List.mem_of_getElem? (i := 12) rfl)) (fun _ h9 => h9) rfl (by decide +kernel) (rfl) (rfl) (Nat.le_of_ble_eq_true rfl) dX4_copy_39 (fun H locs hP hD hS => ?_)
  replace hP : va_P (dC, dI) vwCl [(h0, .inr (4, [.ref h1, .ref h2, .int a6, .int a7, .int a3, .int a4])), (h1, .inl (cI, 81, .inl f_1)), (h4, .inr (4, [.ref h5, .ref h6, .int a6, .int a7, .int a8, .int a9])), (h5, .inl (cI, 81, .inl g2)), (h2, .inr (3, [.ref h3, .int a5])), (h3, .inl (cI, 9, .inl f_3)), (h6, .inr (3, [.ref h7, .int a5])), (h7, .inl (cI, 9, .inl g3))] H := hP
  replace hD : va_D A [(h0, .inr (4, [.ref h1, .ref h2, .int a6, .int a7, .int a3, .int a4])), (h1, .inl (cI, 81, .inl f_1)), (h4, .inr (4, [.ref h5, .ref h6, .int a6, .int a7, .int a8, .int a9])), (h5, .inl (cI, 81, .inl g2)), (h2, .inr (3, [.ref h3, .int a5])), (h3, .inl (cI, 9, .inl f_3)), (h6, .inr (3, [.ref h7, .int a5])), (h7, .inl (cI, 9, .inl g3))] := hD
  refine lv_aload_n hx hb dX4_copy_42 rfl (lv_at hl 0 rfl) ?_
  refine lv_aload_n hx hb dX4_copy_43 rfl (lv_at hl 1 rfl) ?_
  refine va_get (D := (dC, dI)) (ci := 4) (v := .int a8) (C := RX4) (T := TX4) (N := 6) hx hb hts hinX4 hown hK hP 2 rfl rfl 4 (by decide) (hts (.fieldLink RX4 29 "MayRings$Past" "w" "I") (List.mem_of_getElem? (i := 13) rfl)) (fun _ h9 => h9) rfl dX4_copy_44 ?_
  refine va_put (D := (dC, dI)) (ci := 4) (v := .int a8) (ty := .int) (C := RX4) (T := TX4) (N := 6) hx hb hts hinX4 tyX4 tyX4_ok nmX4 hown hK hP hD hS 0 rfl rfl 4 (by decide) (hts (.fieldLink RX4 29 "MayRings$Past" "w" "I") (List.mem_of_getElem? (i := 13) rfl)) (fun _ h9 => h9) rfl (by decide +kernel) (rfl) (rfl) (Nat.le_of_ble_eq_true rfl) dX4_copy_47 (fun H locs hP hD hS => ?_)
  replace hP : va_P (dC, dI) vwCl [(h0, .inr (4, [.ref h1, .ref h2, .int a6, .int a7, .int a8, .int a4])), (h1, .inl (cI, 81, .inl f_1)), (h4, .inr (4, [.ref h5, .ref h6, .int a6, .int a7, .int a8, .int a9])), (h5, .inl (cI, 81, .inl g2)), (h2, .inr (3, [.ref h3, .int a5])), (h3, .inl (cI, 9, .inl f_3)), (h6, .inr (3, [.ref h7, .int a5])), (h7, .inl (cI, 9, .inl g3))] H := hP
  replace hD : va_D A [(h0, .inr (4, [.ref h1, .ref h2, .int a6, .int a7, .int a8, .int a4])), (h1, .inl (cI, 81, .inl f_1)), (h4, .inr (4, [.ref h5, .ref h6, .int a6, .int a7, .int a8, .int a9])), (h5, .inl (cI, 81, .inl g2)), (h2, .inr (3, [.ref h3, .int a5])), (h3, .inl (cI, 9, .inl f_3)), (h6, .inr (3, [.ref h7, .int a5])), (h7, .inl (cI, 9, .inl g3))] := hD
  have hP9 := hP.sub (ws' := [(h0, .inr (4, [.ref h1, .ref h2, .int a6, .int a7, .int a8, .int a4])), (h1, .inl (cI, 81, .inl f_1)), (h2, .inr (3, [.ref h3, .int a5])), (h3, .inl (cI, 9, .inl f_3)), (h4, .inr (4, [.ref h5, .ref h6, .int a6, .int a7, .int a8, .int a9])), (h5, .inl (cI, 81, .inl g2)), (h6, .inr (3, [.ref h7, .int a5])), (h7, .inl (cI, 9, .inl g3))]) [0, 1, 4, 5, 2, 3, 6, 7] rfl
  have hD9 := hD.sub (ws' := [(h0, .inr (4, [.ref h1, .ref h2, .int a6, .int a7, .int a8, .int a4])), (h1, .inl (cI, 81, .inl f_1)), (h2, .inr (3, [.ref h3, .int a5])), (h3, .inl (cI, 9, .inl f_3)), (h4, .inr (4, [.ref h5, .ref h6, .int a6, .int a7, .int a8, .int a9])), (h5, .inl (cI, 81, .inl g2)), (h6, .inr (3, [.ref h7, .int a5])), (h7, .inl (cI, 9, .inl g3))]) [0, 1, 4, 5, 2, 3, 6, 7] (by decide) rfl
  exact W.vret hx hb hr (fun t ht hW => ⟨⟨(), rfl, trivial, ⟨f_1, f_3, hf_3, by rw [ht]; exact hP9, hD9⟩⟩, hS.F ht⟩) hS.2.2 dX4_copy_50
def v_s_X4_meet : List Cond := Cond.code yX4_meet cX4_meet 3 none :: ([Cond.fieldLink RX4 9 "MayRings$Past" "met" "[I", Cond.fieldLink RX4 22 "MayRings$Past" "years" "I"] ++ (wsX40 ++ ([])))
theorem k_s_X4_meet : GoodIn lw_tbl v_s_X4_meet := gd_c (List.mem_of_getElem? (i := 1137) (by decide +kernel)) rfl (goodIn_app (gd_c (List.mem_of_getElem? (i := 373) (by decide +kernel)) rfl (gd_c (List.mem_of_getElem? (i := 376) (by decide +kernel)) rfl (gd_nil))) (goodIn_app kfX4 (gd_nil)))
set_option maxHeartbeats 2000000 in
set_option maxRecDepth 100000 in
theorem c_s_X4_meet (l : Launch) (dC : Nat → ClassId) (dI : Nat → Nat → Nat) (cB cI cJ cZ cP : ClassId) (h0 : Nat) (h1 : Nat) (g0 : Nat → Int32) (h2 : Nat) (a1 : Int32) (a2 : Int32) (a3 : Int32) (a4 : Int32) (p0 : Int32) (hp0 : rg (0) (8) p0) (p1 : Int32) (hp1 : rg (0) (8) p1) (sz : Nat) : Met l yX4_meet v_s_X4_meet ({ frames := 0, cells := 0, slots := 0, locals := 0 }) (va_Pc [.ref h0, .int p0, .int p1] (fun U => U.heap.size = sz ∧ va_P (dC, dI) vwCl [(h0, .inr (4, [.ref h1, .ref h2, .int a1, .int a2, .int a3, .int a4])), (h1, .inl (cI, 81, .inl g0))] U.heap ∧ va_K (dC, dI) vwCl (ty5 cB cI cJ cZ cP) U ∧ va_D (fun _ => True) [(h0, .inr (4, [.ref h1, .ref h2, .int a1, .int a2, .int a3, .int a4])), (h1, .inl (cI, 81, .inl g0))])) (va_Qv (fun _ : Unit => True) (fun _ t => ∃ (z0 : Nat → Int32), va_P (dC, dI) vwCl [(h0, .inr (4, [.ref h1, .ref h2, .int a1, .int a2, .int a3, .int a4])), (h1, .inl (cI, 81, .inl z0))] t.heap ∧ va_D (va_A [(h0, .inr (4, [.ref h1, .ref h2, .int a1, .int a2, .int a3, .int a4])), (h1, .inl (cI, 81, .inl g0))] sz) [(h0, .inr (4, [.ref h1, .ref h2, .int a1, .int a2, .int a3, .int a4])), (h1, .inl (cI, 81, .inl z0))]) (va_A [(h0, .inr (4, [.ref h1, .ref h2, .int a1, .int a2, .int a3, .int a4])), (h1, .inl (cI, 81, .inl g0))] sz)) 0 0 (va_A [(h0, .inr (4, [.ref h1, .ref h2, .int a1, .int a2, .int a3, .int a4])), (h1, .inl (cI, 81, .inl g0))] sz) := by
  refine Met.ofW (cc := cX4_meet) (maxL := 3) (ret := none) (by decide) rfl ?_
  intro p e s m args below meth c s₁ B hml hv
  obtain ⟨rfl, hsz, hP, hK, hD0⟩ := hv
  have hx := B.exec
  have hb := B.bytes
  have hr := B.returns
  have hts := atoms_spec (ws := v_s_X4_meet) B.pre
  have hown : s.vm.findClass RX4 = some m.cls := findClass_of_methodNamed B.named
  have hlocks := B.notSynchronized
  have hinX4 : ∀ w ∈ wsX40, w ∈ v_s_X4_meet := fun _ h => List.mem_cons_of_mem _ (List.mem_append_right _ (List.mem_append_left _ h))
  subst hsz
  have hD := hD0.self (sz := s.heap.size)
  generalize hAe : va_A [(h0, .inr (4, [.ref h1, .ref h2, .int a1, .int a2, .int a3, .int a4])), (h1, .inl (cI, 81, .inl g0))] s.heap.size = A at hD ⊢
  have hA : ∀ q : Nat, s.heap.size ≤ q → A q := fun q h => by rw [← hAe]; exact Or.inr h
  have hP : va_P (dC, dI) vwCl [(h0, .inr (4, [.ref h1, .ref h2, .int a1, .int a2, .int a3, .int a4])), (h1, .inl (cI, 81, .inl g0))] s.heap := hP
  have hl := lv_entry ([.ref h0, .int p0, .int p1]) (n := 3) (Nat.le_of_ble_eq_true rfl)
  rw [lg_entry_eq]
  generalize (lg_sl ([.ref h0, .int p0, .int p1]) ++ List.replicate (3 - (lg_sl ([.ref h0, .int p0, .int p1])).length) Slot.unset).toArray = ls at hl ⊢
  have hl : lv_has ls 3 [(0, .ref h0), (1, .int p0), (2, .int p1)] := hl
  refine W_gen (A := A) hP (fun H locs hP hS => ?_)
  refine lv_aload_n hx hb dX4_meet_0 rfl (lv_at hl 0 rfl) ?_
  refine va_get (D := (dC, dI)) (ci := 4) (v := .ref h1) (C := RX4) (T := TX4) (N := 6) hx hb hts hinX4 hown hK hP 0 rfl rfl 0 (by decide) (hts (.fieldLink RX4 9 "MayRings$Past" "met" "[I") (List.mem_of_getElem? (i := 1) rfl)) (fun _ h9 => h9) rfl dX4_meet_1 ?_
  refine lv_iload_n hx hb dX4_meet_4 rfl (lv_at hl 1 rfl) ?_
  refine lv_bipush (v := 9) hx hb dX4_meet_5 (by decide) ?_
  refine lv_imul hx hb dX4_meet_7 ?_
  refine lv_topi (fun x_1 ex_1 => ?_)
  have hx_1 : rg (0) (72) x_1 := by rw [ex_1]; exact rg_mono (rg_mul hp0 (rg_k (x := 9) (c := 9) (by decide)) (by decide) (by decide) (by decide)) (by decide) (by decide)
  refine lv_iload_n hx hb dX4_meet_8 rfl (lv_at hl 2 rfl) ?_
  refine lv_iadd hx hb dX4_meet_9 ?_
  refine lv_topi (fun x_2 ex_2 => ?_)
  have hx_2 : rg (0) (80) x_2 := by rw [ex_2]; exact rg_mono (rg_add hx_1 hp1 (by decide) (by decide)) (by decide) (by decide)
  have qx_2 : x_2.toInt = x_1.toInt + p1.toInt := by rw [ex_2]; exact rg_addQ hx_1 hp1 (by decide) (by decide)
  refine lv_aload_n hx hb dX4_meet_10 rfl (lv_at hl 0 rfl) ?_
  refine va_get (D := (dC, dI)) (ci := 4) (v := .int a1) (C := RX4) (T := TX4) (N := 6) hx hb hts hinX4 hown hK hP 0 rfl rfl 2 (by decide) (hts (.fieldLink RX4 22 "MayRings$Past" "years" "I") (List.mem_of_getElem? (i := 2) rfl)) (fun _ h9 => h9) rfl dX4_meet_11 ?_
  refine va_iast hx hb hK hP hD hS 1 1 rfl rfl (rg_in (n := 81) (rg_mono hx_2 (by decide) (by decide))) dX4_meet_14 (fun H locs hP hD hS => ?_)
  obtain ⟨f_3, ef_3⟩ : ∃ f : Nat → Int32, f = upd g0 (x_2 : Int32).toNatClampNeg a1 := ⟨_, rfl⟩
  rw [← ef_3] at hP hD
  clear ef_3
  replace hP : va_P (dC, dI) vwCl [(h0, .inr (4, [.ref h1, .ref h2, .int a1, .int a2, .int a3, .int a4])), (h1, .inl (cI, 81, .inl f_3))] H := hP
  replace hD : va_D A [(h0, .inr (4, [.ref h1, .ref h2, .int a1, .int a2, .int a3, .int a4])), (h1, .inl (cI, 81, .inl f_3))] := hD
  refine lv_aload_n hx hb dX4_meet_15 rfl (lv_at hl 0 rfl) ?_
  refine va_get (D := (dC, dI)) (ci := 4) (v := .ref h1) (C := RX4) (T := TX4) (N := 6) hx hb hts hinX4 hown hK hP 0 rfl rfl 0 (by decide) (hts (.fieldLink RX4 9 "MayRings$Past" "met" "[I") (List.mem_of_getElem? (i := 1) rfl)) (fun _ h9 => h9) rfl dX4_meet_16 ?_
  refine lv_iload_n hx hb dX4_meet_19 rfl (lv_at hl 2 rfl) ?_
  refine lv_bipush (v := 9) hx hb dX4_meet_20 (by decide) ?_
  refine lv_imul hx hb dX4_meet_22 ?_
  refine lv_topi (fun x_4 ex_4 => ?_)
  have hx_4 : rg (0) (72) x_4 := by rw [ex_4]; exact rg_mono (rg_mul hp1 (rg_k (x := 9) (c := 9) (by decide)) (by decide) (by decide) (by decide)) (by decide) (by decide)
  refine lv_iload_n hx hb dX4_meet_23 rfl (lv_at hl 1 rfl) ?_
  refine lv_iadd hx hb dX4_meet_24 ?_
  refine lv_topi (fun x_5 ex_5 => ?_)
  have hx_5 : rg (0) (80) x_5 := by rw [ex_5]; exact rg_mono (rg_add hx_4 hp0 (by decide) (by decide)) (by decide) (by decide)
  have qx_5 : x_5.toInt = x_4.toInt + p0.toInt := by rw [ex_5]; exact rg_addQ hx_4 hp0 (by decide) (by decide)
  refine lv_aload_n hx hb dX4_meet_25 rfl (lv_at hl 0 rfl) ?_
  refine va_get (D := (dC, dI)) (ci := 4) (v := .int a1) (C := RX4) (T := TX4) (N := 6) hx hb hts hinX4 hown hK hP 0 rfl rfl 2 (by decide) (hts (.fieldLink RX4 22 "MayRings$Past" "years" "I") (List.mem_of_getElem? (i := 2) rfl)) (fun _ h9 => h9) rfl dX4_meet_26 ?_
  refine va_iast hx hb hK hP hD hS 1 1 rfl rfl (rg_in (n := 81) (rg_mono hx_5 (by decide) (by decide))) dX4_meet_29 (fun H locs hP hD hS => ?_)
  obtain ⟨f_6, ef_6⟩ : ∃ f : Nat → Int32, f = upd f_3 (x_5 : Int32).toNatClampNeg a1 := ⟨_, rfl⟩
  rw [← ef_6] at hP hD
  clear ef_6
  replace hP : va_P (dC, dI) vwCl [(h0, .inr (4, [.ref h1, .ref h2, .int a1, .int a2, .int a3, .int a4])), (h1, .inl (cI, 81, .inl f_6))] H := hP
  replace hD : va_D A [(h0, .inr (4, [.ref h1, .ref h2, .int a1, .int a2, .int a3, .int a4])), (h1, .inl (cI, 81, .inl f_6))] := hD
  have hP9 := hP.sub (ws' := [(h0, .inr (4, [.ref h1, .ref h2, .int a1, .int a2, .int a3, .int a4])), (h1, .inl (cI, 81, .inl f_6))]) [0, 1] rfl
  have hD9 := hD.sub (ws' := [(h0, .inr (4, [.ref h1, .ref h2, .int a1, .int a2, .int a3, .int a4])), (h1, .inl (cI, 81, .inl f_6))]) [0, 1] (by decide) rfl
  exact W.vret hx hb hr (fun t ht hW => ⟨⟨(), rfl, trivial, ⟨f_6, by rw [ht]; exact hP9, hD9⟩⟩, hS.F ht⟩) hS.2.2 dX4_meet_30
def v_s_X4_placeOf : List Cond := Cond.code yX4_placeOf cX4_placeOf 3 (some .int) :: ([Cond.fieldLink RX4 18 "MayRings$Past" "standing" "LMayRings$Order;", Cond.fieldLink RX4 42 "MayRings$Order" "size" "I", Cond.fieldLink RX4 61 "MayRings$Order" "houses" "[I"] ++ (wsX30 ++ (wsX40 ++ ([]))))
theorem k_s_X4_placeOf : GoodIn lw_tbl v_s_X4_placeOf := gd_c (List.mem_of_getElem? (i := 906) (by decide +kernel)) rfl (goodIn_app (gd_c (List.mem_of_getElem? (i := 374) (by decide +kernel)) rfl (gd_c (List.mem_of_getElem? (i := 365) (by decide +kernel)) rfl (gd_c (List.mem_of_getElem? (i := 361) (by decide +kernel)) rfl (gd_nil)))) (goodIn_app kfX3 (goodIn_app kfX4 (gd_nil))))
set_option maxHeartbeats 2000000 in
set_option maxRecDepth 100000 in
theorem c_s_X4_placeOf (l : Launch) (dC : Nat → ClassId) (dI : Nat → Nat → Nat) (cB cI cJ cZ cP : ClassId) (h0 : Nat) (h1 : Nat) (h2 : Nat) (h3 : Nat) (g1 : Nat → Int32) (hg1 : rgA (0) (8) g1) (a0 : Int32) (ha0 : rg (-1) (9) a0) (a1 : Int32) (a2 : Int32) (a3 : Int32) (a4 : Int32) (p0 : Int32) (sz : Nat) : Met l yX4_placeOf v_s_X4_placeOf ({ frames := 0, cells := 0, slots := 0, locals := 0 }) (va_Pc [.ref h0, .int p0] (fun U => U.heap.size = sz ∧ va_P (dC, dI) vwCl [(h0, .inr (4, [.ref h1, .ref h2, .int a1, .int a2, .int a3, .int a4])), (h2, .inr (3, [.ref h3, .int a0])), (h3, .inl (cI, 9, .inl g1))] U.heap ∧ va_K (dC, dI) vwCl (ty5 cB cI cJ cZ cP) U ∧ va_D (fun _ => True) [(h0, .inr (4, [.ref h1, .ref h2, .int a1, .int a2, .int a3, .int a4])), (h2, .inr (3, [.ref h3, .int a0])), (h3, .inl (cI, 9, .inl g1))])) (va_Qi (fun (r : Int32) (u9 : Unit) => rg (-1) (8) r) (fun u9 t => va_P (dC, dI) vwCl [(h0, .inr (4, [.ref h1, .ref h2, .int a1, .int a2, .int a3, .int a4])), (h2, .inr (3, [.ref h3, .int a0])), (h3, .inl (cI, 9, .inl g1))] t.heap ∧ va_D (va_A [(h0, .inr (4, [.ref h1, .ref h2, .int a1, .int a2, .int a3, .int a4])), (h2, .inr (3, [.ref h3, .int a0])), (h3, .inl (cI, 9, .inl g1))] sz) [(h0, .inr (4, [.ref h1, .ref h2, .int a1, .int a2, .int a3, .int a4])), (h2, .inr (3, [.ref h3, .int a0])), (h3, .inl (cI, 9, .inl g1))]) (va_A [(h0, .inr (4, [.ref h1, .ref h2, .int a1, .int a2, .int a3, .int a4])), (h2, .inr (3, [.ref h3, .int a0])), (h3, .inl (cI, 9, .inl g1))] sz)) 0 0 (va_A [(h0, .inr (4, [.ref h1, .ref h2, .int a1, .int a2, .int a3, .int a4])), (h2, .inr (3, [.ref h3, .int a0])), (h3, .inl (cI, 9, .inl g1))] sz) := by
  refine Met.ofW (cc := cX4_placeOf) (maxL := 3) (ret := (some .int)) (by decide) rfl ?_
  intro p e s m args below meth c s₁ B hml hv
  obtain ⟨rfl, hsz, hP, hK, hD0⟩ := hv
  have hx := B.exec
  have hb := B.bytes
  have hr := B.returns
  have hts := atoms_spec (ws := v_s_X4_placeOf) B.pre
  have hown : s.vm.findClass RX4 = some m.cls := findClass_of_methodNamed B.named
  have hlocks := B.notSynchronized
  have hinX3 : ∀ w ∈ wsX30, w ∈ v_s_X4_placeOf := fun _ h => List.mem_cons_of_mem _ (List.mem_append_right _ (List.mem_append_left _ h))
  have hinX4 : ∀ w ∈ wsX40, w ∈ v_s_X4_placeOf := fun _ h => List.mem_cons_of_mem _ (List.mem_append_right _ (List.mem_append_right _ (List.mem_append_left _ h)))
  subst hsz
  have hD := hD0.self (sz := s.heap.size)
  generalize hAe : va_A [(h0, .inr (4, [.ref h1, .ref h2, .int a1, .int a2, .int a3, .int a4])), (h2, .inr (3, [.ref h3, .int a0])), (h3, .inl (cI, 9, .inl g1))] s.heap.size = A at hD ⊢
  have hA : ∀ q : Nat, s.heap.size ≤ q → A q := fun q h => by rw [← hAe]; exact Or.inr h
  have hP : va_P (dC, dI) vwCl [(h0, .inr (4, [.ref h1, .ref h2, .int a1, .int a2, .int a3, .int a4])), (h2, .inr (3, [.ref h3, .int a0])), (h3, .inl (cI, 9, .inl g1))] s.heap := hP
  have hl := lv_entry ([.ref h0, .int p0]) (n := 3) (Nat.le_of_ble_eq_true rfl)
  rw [lg_entry_eq]
  generalize (lg_sl ([.ref h0, .int p0]) ++ List.replicate (3 - (lg_sl ([.ref h0, .int p0])).length) Slot.unset).toArray = ls at hl ⊢
  have hl : lv_has ls 3 [(0, .ref h0), (1, .int p0)] := hl
  refine W_gen (A := A) hP (fun H locs hP hS => ?_)
  refine lv_iconst (v := 0) hx hb dX4_placeOf_0 (by decide) ?_
  refine lv_istore_n (lv' := [(2, .int 0), (0, .ref h0), (1, .int p0)]) hx hb dX4_placeOf_1 rfl hl (by decide) rfl (fun ls hl => ?_)
  refine W_loopM (σ := Int32) (fun u H locs ls => va_P (dC, dI) vwCl [(h0, .inr (4, [.ref h1, .ref h2, .int a1, .int a2, .int a3, .int a4])), (h2, .inr (3, [.ref h3, .int a0])), (h3, .inl (cI, 9, .inl g1))] H ∧ va_D A [(h0, .inr (4, [.ref h1, .ref h2, .int a1, .int a2, .int a3, .int a4])), (h2, .inr (3, [.ref h3, .int a0])), (h3, .inl (cI, 9, .inl g1))] ∧ va_S A s.heap H locs ∧ lv_has ls 3 [(2, .int u), (0, .ref h0), (1, .int p0)] ∧ rg (0) (9) u) (fun u => ((9) - u.toInt).toNat) 2 [] ?_ (0) H locs ls ⟨hP, hD, hS, hl, (rg_mono (rg_k (x := 0) (c := 0) (by decide)) (by decide) (by decide))⟩
  rintro x_71 H locs ls ⟨hP, hD, hS, hl, hx_71⟩ ih_80
  replace hP : va_P (dC, dI) vwCl [(h0, .inr (4, [.ref h1, .ref h2, .int a1, .int a2, .int a3, .int a4])), (h2, .inr (3, [.ref h3, .int a0])), (h3, .inl (cI, 9, .inl g1))] H := hP
  replace hD : va_D A [(h0, .inr (4, [.ref h1, .ref h2, .int a1, .int a2, .int a3, .int a4])), (h2, .inr (3, [.ref h3, .int a0])), (h3, .inl (cI, 9, .inl g1))] := hD
  replace hl : lv_has ls 3 [(2, .int x_71), (0, .ref h0), (1, .int p0)] := hl
  replace hx_71 : rg (0) (9) x_71 := hx_71
  refine lv_iload_n hx hb dX4_placeOf_2 rfl (lv_at hl 0 rfl) ?_
  refine lv_aload_n hx hb dX4_placeOf_3 rfl (lv_at hl 1 rfl) ?_
  refine va_get (D := (dC, dI)) (ci := 4) (v := .ref h2) (C := RX4) (T := TX4) (N := 6) hx hb hts hinX4 hown hK hP 0 rfl rfl 1 (by decide) (hts (.fieldLink RX4 18 "MayRings$Past" "standing" "LMayRings$Order;") (List.mem_of_getElem? (i := 1) rfl)) (fun _ h9 => h9) rfl dX4_placeOf_4 ?_
  refine va_get (D := (dC, dI)) (ci := 3) (v := .int a0) (C := RX3) (T := TX3) (N := 2) hx hb hts hinX3 hown hK hP 1 rfl rfl 1 (by decide) (hts (.fieldLink RX4 42 "MayRings$Order" "size" "I") (List.mem_of_getElem? (i := 2) rfl)) (fun _ h9 => h9) rfl dX4_placeOf_7 ?_
  refine lv_icmp_ge (tgt := 34) hx hb dX4_placeOf_10 (by decide) (fun c_81 => ?_) (fun c_81 => ?_)
  · skip
    refine lv_iconst (v := (-1)) hx hb dX4_placeOf_34 (by decide) ?_
    have hP9 := hP.sub (ws' := [(h0, .inr (4, [.ref h1, .ref h2, .int a1, .int a2, .int a3, .int a4])), (h2, .inr (3, [.ref h3, .int a0])), (h3, .inl (cI, 9, .inl g1))]) [0, 1, 2] rfl
    have hD9 := hD.sub (ws' := [(h0, .inr (4, [.ref h1, .ref h2, .int a1, .int a2, .int a3, .int a4])), (h2, .inr (3, [.ref h3, .int a0])), (h3, .inl (cI, 9, .inl g1))]) [0, 1, 2] (by decide) rfl
    exact W.iret (v := (-1)) hx hb hr (fun t ht hW => ⟨⟨(-1), (), rfl, (rg_mono (rg_k (x := (-1)) (c := -1) (by decide)) (by decide) (by decide)), ⟨by rw [ht]; exact hP9, hD9⟩⟩, hS.F ht⟩) hS.2.2 dX4_placeOf_35
  · skip
    have h_82 : rg (0) (8) x_71 := by have ha := hx_71; have hb_ := ha0; simp only [rg, fa_lt, fa_le, fa_eq] at ha hb_ c_81; simp only [rg]; omega
    have h_83 : rg (1) (9) a0 := by have ha := h_82; have hb_ := ha0; have hc_ := c_81; simp only [rg, fa_lt, fa_le, fa_eq] at ha hb_ hc_; simp only [rg]; omega
    have h_84 : rg (1) (9) a0 := by have ha := hx_71; have hb_ := ha0; simp only [rg, fa_lt, fa_le, fa_eq] at ha hb_ c_81; simp only [rg]; omega
    refine lv_aload_n hx hb dX4_placeOf_13 rfl (lv_at hl 1 rfl) ?_
    refine va_get (D := (dC, dI)) (ci := 4) (v := .ref h2) (C := RX4) (T := TX4) (N := 6) hx hb hts hinX4 hown hK hP 0 rfl rfl 1 (by decide) (hts (.fieldLink RX4 18 "MayRings$Past" "standing" "LMayRings$Order;") (List.mem_of_getElem? (i := 1) rfl)) (fun _ h9 => h9) rfl dX4_placeOf_14 ?_
    refine va_get (D := (dC, dI)) (ci := 3) (v := .ref h3) (C := RX3) (T := TX3) (N := 2) hx hb hts hinX3 hown hK hP 1 rfl rfl 0 (by decide) (hts (.fieldLink RX4 61 "MayRings$Order" "houses" "[I") (List.mem_of_getElem? (i := 3) rfl)) (fun _ h9 => h9) rfl dX4_placeOf_17 ?_
    refine lv_iload_n hx hb dX4_placeOf_20 rfl (lv_at hl 0 rfl) ?_
    refine va_iald hx hb hK hP 2 1 rfl rfl (rg_in (n := 9) (rg_mono h_82 (by decide) (by decide))) dX4_placeOf_21 ?_
    refine lv_topi (fun x_85 ex_85 => ?_)
    have hx_85 : rg (0) (8) x_85 := by rw [ex_85]; exact rg_mono (hg1 _) (by decide) (by decide)
    refine lv_iload_n hx hb dX4_placeOf_22 rfl (lv_at hl 2 rfl) ?_
    refine lv_icmp_ne (tgt := 28) hx hb dX4_placeOf_23 (by decide) (fun c_86 => ?_) (fun c_86 => ?_)
    · skip
      obtain ⟨x_87, ex_87⟩ : ∃ y : Int32, y = x_71 + Int32.ofInt (1) := ⟨_, rfl⟩
      have hx_87 : rg (1) (9) x_87 := by rw [ex_87]; exact rg_mono (rg_add h_82 (rg_k (x := Int32.ofInt (1)) (c := 1) (by decide)) (by decide) (by decide)) (by decide) (by decide)
      have qx_87 : x_87.toInt = x_71.toInt + (1) := by rw [ex_87]; exact rg_addE h_82 (rg_k (x := Int32.ofInt (1)) (c := 1) (by decide)) (by decide) (by decide) (by decide)
      refine lv_iinc (v := x_87) (lv' := [(2, .int x_87), (0, .ref h0), (1, .int p0)]) hx hb dX4_placeOf_28 hl (k := 0) rfl (ex_87.symm) (by decide) rfl (fun ls hl => ?_)
      clear ex_87
      refine lv_goto (tgt := 2) hx hb dX4_placeOf_31 (by decide) ?_
      exact ih_80 (x_87) H locs ls ⟨hP.sub (ws' := [(h0, .inr (4, [.ref h1, .ref h2, .int a1, .int a2, .int a3, .int a4])), (h2, .inr (3, [.ref h3, .int a0])), (h3, .inl (cI, 9, .inl g1))]) [0, 1, 2] rfl, hD.sub (ws' := [(h0, .inr (4, [.ref h1, .ref h2, .int a1, .int a2, .int a3, .int a4])), (h2, .inr (3, [.ref h3, .int a0])), (h3, .inl (cI, 9, .inl g1))]) [0, 1, 2] (by decide) rfl, hS, lv_sub hl [0, 1, 2] rfl, (rg_mono hx_87 (by decide) (by decide))⟩ (by show ((9) - x_87.toInt).toNat < ((9) - x_71.toInt).toNat; have ha := h_82; simp only [rg] at ha; omega)
    · skip
      have h_88 : rg (0) (8) p0 := by have ha := hx_85; have hb_ := (rg_any p0); simp only [rg, fa_lt, fa_le, fa_eq] at ha hb_ c_86; simp only [rg]; omega
      refine lv_iload_n hx hb dX4_placeOf_26 rfl (lv_at hl 0 rfl) ?_
      have hP9 := hP.sub (ws' := [(h0, .inr (4, [.ref h1, .ref h2, .int a1, .int a2, .int a3, .int a4])), (h2, .inr (3, [.ref h3, .int a0])), (h3, .inl (cI, 9, .inl g1))]) [0, 1, 2] rfl
      have hD9 := hD.sub (ws' := [(h0, .inr (4, [.ref h1, .ref h2, .int a1, .int a2, .int a3, .int a4])), (h2, .inr (3, [.ref h3, .int a0])), (h3, .inl (cI, 9, .inl g1))]) [0, 1, 2] (by decide) rfl
      exact W.iret (v := x_71) hx hb hr (fun t ht hW => ⟨⟨x_71, (), rfl, (rg_mono h_82 (by decide) (by decide)), ⟨by rw [ht]; exact hP9, hD9⟩⟩, hS.F ht⟩) hS.2.2 dX4_placeOf_27
def v_s_X5_put : List Cond := Cond.code yX5_put cX5_put 5 none :: ([Cond.fieldLink RX5 25 "MayRings$Reader" "count" "I", Cond.fieldLink RX5 15 "MayRings$Reader" "kinds" "[I", Cond.fieldLink RX5 19 "MayRings$Reader" "places" "[I", Cond.fieldLink RX5 22 "MayRings$Reader" "values" "[J"] ++ (wsX50 ++ ([])))
theorem k_s_X5_put : GoodIn lw_tbl v_s_X5_put := gd_c (List.mem_of_getElem? (i := 609) (by decide +kernel)) rfl (goodIn_app (gd_c (List.mem_of_getElem? (i := 311) (by decide +kernel)) rfl (gd_c (List.mem_of_getElem? (i := 308) (by decide +kernel)) rfl (gd_c (List.mem_of_getElem? (i := 309) (by decide +kernel)) rfl (gd_c (List.mem_of_getElem? (i := 310) (by decide +kernel)) rfl (gd_nil))))) (goodIn_app kfX5 (gd_nil)))
set_option maxHeartbeats 2000000 in
set_option maxRecDepth 100000 in
theorem c_s_X5_put (l : Launch) (dC : Nat → ClassId) (dI : Nat → Nat → Nat) (cB cI cJ cZ cP : ClassId) (h0 : Nat) (h1 : Nat) (h2 : Nat) (g1 : Nat → Int32) (h3 : Nat) (g2 : Nat → Int32) (h4 : Nat) (g3 : Nat → Int64) (a0 : Int32) (ha0 : rg (0) (1601) a0) (a1 : Int32) (h5 : Nat) (a9 : Int32) (a10 : Int32) (a11 : Int32) (a12 : Int32) (a13 : Int32) (p0 : Int32) (p1 : Int32) (y0 : Int64) (sz : Nat) : Met l yX5_put v_s_X5_put ({ frames := 0, cells := 0, slots := 0, locals := 0 }) (va_Pc [.ref h0, .int p0, .int p1, .long y0] (fun U => U.heap.size = sz ∧ va_P (dC, dI) vwCl [(h0, .inr (5, [.ref h1, .ref h2, .ref h3, .ref h4, .int a0, .int a1, .ref h5, .int a9, .int a10, .int a11, .int a12, .int a13])), (h2, .inl (cI, 1601, .inl g1)), (h3, .inl (cI, 1601, .inl g2)), (h4, .inl (cJ, 1601, .inr (.inl g3)))] U.heap ∧ va_K (dC, dI) vwCl (ty5 cB cI cJ cZ cP) U ∧ va_D (fun _ => True) [(h0, .inr (5, [.ref h1, .ref h2, .ref h3, .ref h4, .int a0, .int a1, .ref h5, .int a9, .int a10, .int a11, .int a12, .int a13])), (h2, .inl (cI, 1601, .inl g1)), (h3, .inl (cI, 1601, .inl g2)), (h4, .inl (cJ, 1601, .inr (.inl g3)))])) (va_Qv (fun _ : Unit => True) (fun _ t => ∃ (z0 : Int32) (z1 : Nat → Int32) (z2 : Nat → Int32) (z3 : Nat → Int64), rg (0) (1601) z0 ∧ va_P (dC, dI) vwCl [(h0, .inr (5, [.ref h1, .ref h2, .ref h3, .ref h4, .int z0, .int a1, .ref h5, .int a9, .int a10, .int a11, .int a12, .int a13])), (h2, .inl (cI, 1601, .inl z1)), (h3, .inl (cI, 1601, .inl z2)), (h4, .inl (cJ, 1601, .inr (.inl z3)))] t.heap ∧ va_D (va_A [(h0, .inr (5, [.ref h1, .ref h2, .ref h3, .ref h4, .int a0, .int a1, .ref h5, .int a9, .int a10, .int a11, .int a12, .int a13])), (h2, .inl (cI, 1601, .inl g1)), (h3, .inl (cI, 1601, .inl g2)), (h4, .inl (cJ, 1601, .inr (.inl g3)))] sz) [(h0, .inr (5, [.ref h1, .ref h2, .ref h3, .ref h4, .int z0, .int a1, .ref h5, .int a9, .int a10, .int a11, .int a12, .int a13])), (h2, .inl (cI, 1601, .inl z1)), (h3, .inl (cI, 1601, .inl z2)), (h4, .inl (cJ, 1601, .inr (.inl z3)))]) (va_A [(h0, .inr (5, [.ref h1, .ref h2, .ref h3, .ref h4, .int a0, .int a1, .ref h5, .int a9, .int a10, .int a11, .int a12, .int a13])), (h2, .inl (cI, 1601, .inl g1)), (h3, .inl (cI, 1601, .inl g2)), (h4, .inl (cJ, 1601, .inr (.inl g3)))] sz)) 0 0 (va_A [(h0, .inr (5, [.ref h1, .ref h2, .ref h3, .ref h4, .int a0, .int a1, .ref h5, .int a9, .int a10, .int a11, .int a12, .int a13])), (h2, .inl (cI, 1601, .inl g1)), (h3, .inl (cI, 1601, .inl g2)), (h4, .inl (cJ, 1601, .inr (.inl g3)))] sz) := by
  refine Met.ofW (cc := cX5_put) (maxL := 5) (ret := none) (by decide) rfl ?_
  intro p e s m args below meth c s₁ B hml hv
  obtain ⟨rfl, hsz, hP, hK, hD0⟩ := hv
  have hx := B.exec
  have hb := B.bytes
  have hr := B.returns
  have hts := atoms_spec (ws := v_s_X5_put) B.pre
  have hown : s.vm.findClass RX5 = some m.cls := findClass_of_methodNamed B.named
  have hlocks := B.notSynchronized
  have hinX5 : ∀ w ∈ wsX50, w ∈ v_s_X5_put := fun _ h => List.mem_cons_of_mem _ (List.mem_append_right _ (List.mem_append_left _ h))
  subst hsz
  have hD := hD0.self (sz := s.heap.size)
  generalize hAe : va_A [(h0, .inr (5, [.ref h1, .ref h2, .ref h3, .ref h4, .int a0, .int a1, .ref h5, .int a9, .int a10, .int a11, .int a12, .int a13])), (h2, .inl (cI, 1601, .inl g1)), (h3, .inl (cI, 1601, .inl g2)), (h4, .inl (cJ, 1601, .inr (.inl g3)))] s.heap.size = A at hD ⊢
  have hA : ∀ q : Nat, s.heap.size ≤ q → A q := fun q h => by rw [← hAe]; exact Or.inr h
  have hP : va_P (dC, dI) vwCl [(h0, .inr (5, [.ref h1, .ref h2, .ref h3, .ref h4, .int a0, .int a1, .ref h5, .int a9, .int a10, .int a11, .int a12, .int a13])), (h2, .inl (cI, 1601, .inl g1)), (h3, .inl (cI, 1601, .inl g2)), (h4, .inl (cJ, 1601, .inr (.inl g3)))] s.heap := hP
  have hl := lv_entry ([.ref h0, .int p0, .int p1, .long y0]) (n := 5) (Nat.le_of_ble_eq_true rfl)
  rw [lg_entry_eq]
  generalize (lg_sl ([.ref h0, .int p0, .int p1, .long y0]) ++ List.replicate (5 - (lg_sl ([.ref h0, .int p0, .int p1, .long y0])).length) Slot.unset).toArray = ls at hl ⊢
  have hl : lv_has ls 5 [(0, .ref h0), (1, .int p0), (2, .int p1), (3, .long y0)] := hl
  refine W_gen (A := A) hP (fun H locs hP hS => ?_)
  refine lv_aload_n hx hb dX5_put_0 rfl (lv_at hl 0 rfl) ?_
  refine va_get (D := (dC, dI)) (ci := 5) (v := .int a0) (C := RX5) (T := TX5) (N := 12) hx hb hts hinX5 hown hK hP 0 rfl rfl 4 (by decide) (hts (.fieldLink RX5 25 "MayRings$Reader" "count" "I") (List.mem_of_getElem? (i := 1) rfl)) (fun _ h9 => h9) rfl dX5_put_1 ?_
  refine lv_sipush (v := 1600) hx hb dX5_put_4 (by decide) ?_
  refine lv_icmp_gt (tgt := 50) hx hb dX5_put_7 (by decide) (fun c_1 => ?_) (fun c_1 => ?_)
  · skip
    have h_2 : rg (1601) (1601) a0 := by have ha := ha0; have hb_ := (rg_k (x := 1600) (c := 1600) (by decide)); simp only [rg, fa_lt, fa_le, fa_eq, (by decide : (1600 : Int32).toInt = 1600)] at ha hb_ c_1; simp only [rg]; omega
    have hP9 := hP.sub (ws' := [(h0, .inr (5, [.ref h1, .ref h2, .ref h3, .ref h4, .int a0, .int a1, .ref h5, .int a9, .int a10, .int a11, .int a12, .int a13])), (h2, .inl (cI, 1601, .inl g1)), (h3, .inl (cI, 1601, .inl g2)), (h4, .inl (cJ, 1601, .inr (.inl g3)))]) [0, 1, 2, 3] rfl
    have hD9 := hD.sub (ws' := [(h0, .inr (5, [.ref h1, .ref h2, .ref h3, .ref h4, .int a0, .int a1, .ref h5, .int a9, .int a10, .int a11, .int a12, .int a13])), (h2, .inl (cI, 1601, .inl g1)), (h3, .inl (cI, 1601, .inl g2)), (h4, .inl (cJ, 1601, .inr (.inl g3)))]) [0, 1, 2, 3] (by decide) rfl
    exact W.vret hx hb hr (fun t ht hW => ⟨⟨(), rfl, trivial, ⟨a0, g1, g2, g3, (rg_mono h_2 (by decide) (by decide)), by rw [ht]; exact hP9, hD9⟩⟩, hS.F ht⟩) hS.2.2 dX5_put_50
  · skip
    have h_3 : rg (0) (1600) a0 := by have ha := ha0; have hb_ := (rg_k (x := 1600) (c := 1600) (by decide)); simp only [rg, fa_lt, fa_le, fa_eq, (by decide : (1600 : Int32).toInt = 1600)] at ha hb_ c_1; simp only [rg]; omega
    refine lv_aload_n hx hb dX5_put_10 rfl (lv_at hl 0 rfl) ?_
    refine va_get (D := (dC, dI)) (ci := 5) (v := .ref h2) (C := RX5) (T := TX5) (N := 12) hx hb hts hinX5 hown hK hP 0 rfl rfl 1 (by decide) (hts (.fieldLink RX5 15 "MayRings$Reader" "kinds" "[I") (List.mem_of_getElem? (i := 2) rfl)) (fun _ h9 => h9) rfl dX5_put_11 ?_
    refine lv_aload_n hx hb dX5_put_14 rfl (lv_at hl 0 rfl) ?_
    refine va_get (D := (dC, dI)) (ci := 5) (v := .int a0) (C := RX5) (T := TX5) (N := 12) hx hb hts hinX5 hown hK hP 0 rfl rfl 4 (by decide) (hts (.fieldLink RX5 25 "MayRings$Reader" "count" "I") (List.mem_of_getElem? (i := 1) rfl)) (fun _ h9 => h9) rfl dX5_put_15 ?_
    refine lv_iload_n hx hb dX5_put_18 rfl (lv_at hl 1 rfl) ?_
    refine va_iast hx hb hK hP hD hS 1 1 rfl rfl (rg_in (n := 1601) (rg_mono h_3 (by decide) (by decide))) dX5_put_19 (fun H locs hP hD hS => ?_)
    obtain ⟨f_4, ef_4⟩ : ∃ f : Nat → Int32, f = upd g1 (a0 : Int32).toNatClampNeg p0 := ⟨_, rfl⟩
    rw [← ef_4] at hP hD
    clear ef_4
    replace hP : va_P (dC, dI) vwCl [(h0, .inr (5, [.ref h1, .ref h2, .ref h3, .ref h4, .int a0, .int a1, .ref h5, .int a9, .int a10, .int a11, .int a12, .int a13])), (h2, .inl (cI, 1601, .inl f_4)), (h3, .inl (cI, 1601, .inl g2)), (h4, .inl (cJ, 1601, .inr (.inl g3)))] H := hP
    replace hD : va_D A [(h0, .inr (5, [.ref h1, .ref h2, .ref h3, .ref h4, .int a0, .int a1, .ref h5, .int a9, .int a10, .int a11, .int a12, .int a13])), (h2, .inl (cI, 1601, .inl f_4)), (h3, .inl (cI, 1601, .inl g2)), (h4, .inl (cJ, 1601, .inr (.inl g3)))] := hD
    refine lv_aload_n hx hb dX5_put_20 rfl (lv_at hl 0 rfl) ?_
    refine va_get (D := (dC, dI)) (ci := 5) (v := .ref h3) (C := RX5) (T := TX5) (N := 12) hx hb hts hinX5 hown hK hP 0 rfl rfl 2 (by decide) (hts (.fieldLink RX5 19 "MayRings$Reader" "places" "[I") (List.mem_of_getElem? (i := 3) rfl)) (fun _ h9 => h9) rfl dX5_put_21 ?_
    refine lv_aload_n hx hb dX5_put_24 rfl (lv_at hl 0 rfl) ?_
    refine va_get (D := (dC, dI)) (ci := 5) (v := .int a0) (C := RX5) (T := TX5) (N := 12) hx hb hts hinX5 hown hK hP 0 rfl rfl 4 (by decide) (hts (.fieldLink RX5 25 "MayRings$Reader" "count" "I") (List.mem_of_getElem? (i := 1) rfl)) (fun _ h9 => h9) rfl dX5_put_25 ?_
    refine lv_iload_n hx hb dX5_put_28 rfl (lv_at hl 2 rfl) ?_
    refine va_iast hx hb hK hP hD hS 2 1 rfl rfl (rg_in (n := 1601) (rg_mono h_3 (by decide) (by decide))) dX5_put_29 (fun H locs hP hD hS => ?_)
    obtain ⟨f_5, ef_5⟩ : ∃ f : Nat → Int32, f = upd g2 (a0 : Int32).toNatClampNeg p1 := ⟨_, rfl⟩
    rw [← ef_5] at hP hD
    clear ef_5
    replace hP : va_P (dC, dI) vwCl [(h0, .inr (5, [.ref h1, .ref h2, .ref h3, .ref h4, .int a0, .int a1, .ref h5, .int a9, .int a10, .int a11, .int a12, .int a13])), (h2, .inl (cI, 1601, .inl f_4)), (h3, .inl (cI, 1601, .inl f_5)), (h4, .inl (cJ, 1601, .inr (.inl g3)))] H := hP
    replace hD : va_D A [(h0, .inr (5, [.ref h1, .ref h2, .ref h3, .ref h4, .int a0, .int a1, .ref h5, .int a9, .int a10, .int a11, .int a12, .int a13])), (h2, .inl (cI, 1601, .inl f_4)), (h3, .inl (cI, 1601, .inl f_5)), (h4, .inl (cJ, 1601, .inr (.inl g3)))] := hD
    refine lv_aload_n hx hb dX5_put_30 rfl (lv_at hl 0 rfl) ?_
    refine va_get (D := (dC, dI)) (ci := 5) (v := .ref h4) (C := RX5) (T := TX5) (N := 12) hx hb hts hinX5 hown hK hP 0 rfl rfl 3 (by decide) (hts (.fieldLink RX5 22 "MayRings$Reader" "values" "[J") (List.mem_of_getElem? (i := 4) rfl)) (fun _ h9 => h9) rfl dX5_put_31 ?_
    refine lv_aload_n hx hb dX5_put_34 rfl (lv_at hl 0 rfl) ?_
    refine va_get (D := (dC, dI)) (ci := 5) (v := .int a0) (C := RX5) (T := TX5) (N := 12) hx hb hts hinX5 hown hK hP 0 rfl rfl 4 (by decide) (hts (.fieldLink RX5 25 "MayRings$Reader" "count" "I") (List.mem_of_getElem? (i := 1) rfl)) (fun _ h9 => h9) rfl dX5_put_35 ?_
    refine lv_lload_n hx hb dX5_put_38 rfl (lv_at hl 3 rfl) ?_
    refine va_last hx hb hK hP hD hS 3 2 rfl rfl (rg_in (n := 1601) (rg_mono h_3 (by decide) (by decide))) dX5_put_39 (fun H locs hP hD hS => ?_)
    obtain ⟨f_6, ef_6⟩ : ∃ f : Nat → Int64, f = vp_updL g3 (a0 : Int32).toNatClampNeg y0 := ⟨_, rfl⟩
    rw [← ef_6] at hP hD
    clear ef_6
    replace hP : va_P (dC, dI) vwCl [(h0, .inr (5, [.ref h1, .ref h2, .ref h3, .ref h4, .int a0, .int a1, .ref h5, .int a9, .int a10, .int a11, .int a12, .int a13])), (h2, .inl (cI, 1601, .inl f_4)), (h3, .inl (cI, 1601, .inl f_5)), (h4, .inl (cJ, 1601, .inr (.inl f_6)))] H := hP
    replace hD : va_D A [(h0, .inr (5, [.ref h1, .ref h2, .ref h3, .ref h4, .int a0, .int a1, .ref h5, .int a9, .int a10, .int a11, .int a12, .int a13])), (h2, .inl (cI, 1601, .inl f_4)), (h3, .inl (cI, 1601, .inl f_5)), (h4, .inl (cJ, 1601, .inr (.inl f_6)))] := hD
    refine lv_aload_n hx hb dX5_put_40 rfl (lv_at hl 0 rfl) ?_
    refine lv_dup hx hb dX5_put_41 rfl ?_
    refine va_get (D := (dC, dI)) (ci := 5) (v := .int a0) (C := RX5) (T := TX5) (N := 12) hx hb hts hinX5 hown hK hP 0 rfl rfl 4 (by decide) (hts (.fieldLink RX5 25 "MayRings$Reader" "count" "I") (List.mem_of_getElem? (i := 1) rfl)) (fun _ h9 => h9) rfl dX5_put_42 ?_
    refine lv_iconst (v := 1) hx hb dX5_put_45 (by decide) ?_
    refine lv_iadd hx hb dX5_put_46 ?_
    refine lv_topi (fun x_7 ex_7 => ?_)
    have hx_7 : rg (1) (1601) x_7 := by rw [ex_7]; exact rg_mono (rg_add h_3 (rg_k (x := 1) (c := 1) (by decide)) (by decide) (by decide)) (by decide) (by decide)
    have qx_7 : x_7.toInt = a0.toInt + (1) := by rw [ex_7]; exact rg_addE h_3 (rg_k (x := 1) (c := 1) (by decide)) (by decide) (by decide) trivial
    refine va_put (D := (dC, dI)) (ci := 5) (v := .int x_7) (ty := .int) (C := RX5) (T := TX5) (N := 12) hx hb hts hinX5 tyX5 tyX5_ok nmX5 hown hK hP hD hS 0 rfl rfl 4 (by decide) (hts (.fieldLink RX5 25 "MayRings$Reader" "count" "I") (List.mem_of_getElem? (i := 1) rfl)) (fun _ h9 => h9) rfl (by decide +kernel) (rfl) (rfl) (Nat.le_of_ble_eq_true rfl) dX5_put_47 (fun H locs hP hD hS => ?_)
    replace hP : va_P (dC, dI) vwCl [(h0, .inr (5, [.ref h1, .ref h2, .ref h3, .ref h4, .int x_7, .int a1, .ref h5, .int a9, .int a10, .int a11, .int a12, .int a13])), (h2, .inl (cI, 1601, .inl f_4)), (h3, .inl (cI, 1601, .inl f_5)), (h4, .inl (cJ, 1601, .inr (.inl f_6)))] H := hP
    replace hD : va_D A [(h0, .inr (5, [.ref h1, .ref h2, .ref h3, .ref h4, .int x_7, .int a1, .ref h5, .int a9, .int a10, .int a11, .int a12, .int a13])), (h2, .inl (cI, 1601, .inl f_4)), (h3, .inl (cI, 1601, .inl f_5)), (h4, .inl (cJ, 1601, .inr (.inl f_6)))] := hD
    have hP9 := hP.sub (ws' := [(h0, .inr (5, [.ref h1, .ref h2, .ref h3, .ref h4, .int x_7, .int a1, .ref h5, .int a9, .int a10, .int a11, .int a12, .int a13])), (h2, .inl (cI, 1601, .inl f_4)), (h3, .inl (cI, 1601, .inl f_5)), (h4, .inl (cJ, 1601, .inr (.inl f_6)))]) [0, 1, 2, 3] rfl
    have hD9 := hD.sub (ws' := [(h0, .inr (5, [.ref h1, .ref h2, .ref h3, .ref h4, .int x_7, .int a1, .ref h5, .int a9, .int a10, .int a11, .int a12, .int a13])), (h2, .inl (cI, 1601, .inl f_4)), (h3, .inl (cI, 1601, .inl f_5)), (h4, .inl (cJ, 1601, .inr (.inl f_6)))]) [0, 1, 2, 3] (by decide) rfl
    exact W.vret hx hb hr (fun t ht hW => ⟨⟨(), rfl, trivial, ⟨x_7, f_4, f_5, f_6, (rg_mono hx_7 (by decide) (by decide)), by rw [ht]; exact hP9, hD9⟩⟩, hS.F ht⟩) hS.2.2 dX5_put_50
def v_s_X5_isLetter : List Cond := Cond.code yX5_isLetter cX5_isLetter 1 (some .boolean) :: ([] ++ ([]))
theorem k_s_X5_isLetter : GoodIn lw_tbl v_s_X5_isLetter := gd_c (List.mem_of_getElem? (i := 601) (by decide +kernel)) rfl (goodIn_app (gd_nil) (gd_nil))
set_option maxHeartbeats 2000000 in
set_option maxRecDepth 100000 in
theorem c_s_X5_isLetter (l : Launch) (dC : Nat → ClassId) (dI : Nat → Nat → Nat) (cB cI cJ cZ cP : ClassId) (p0 : Int32) (sz : Nat) : Met l yX5_isLetter v_s_X5_isLetter ({ frames := 0, cells := 0, slots := 0, locals := 0 }) (va_Pc [.int p0] (fun U => U.heap.size = sz ∧ va_P (dC, dI) vwCl [] U.heap ∧ va_K (dC, dI) vwCl (ty5 cB cI cJ cZ cP) U ∧ va_D (fun _ => True) [])) (va_Qi (fun (r : Int32) (u9 : Unit) => rg (0) (1) r) (fun u9 t => va_P (dC, dI) vwCl [] t.heap ∧ va_D (va_A [] sz) []) (va_A [] sz)) 0 0 (va_A [] sz) := by
  refine Met.ofW (cc := cX5_isLetter) (maxL := 1) (ret := (some .boolean)) (by decide) rfl ?_
  intro p e s m args below meth c s₁ B hml hv
  obtain ⟨rfl, hsz, hP, hK, hD0⟩ := hv
  have hx := B.exec
  have hb := B.bytes
  have hr := B.returns
  have hts := atoms_spec (ws := v_s_X5_isLetter) B.pre
  have hown : s.vm.findClass RX5 = some m.cls := findClass_of_methodNamed B.named
  have hlocks := B.notSynchronized
  subst hsz
  have hD := hD0.self (sz := s.heap.size)
  generalize hAe : va_A [] s.heap.size = A at hD ⊢
  have hA : ∀ q : Nat, s.heap.size ≤ q → A q := fun q h => by rw [← hAe]; exact Or.inr h
  have hP : va_P (dC, dI) vwCl [] s.heap := hP
  have hl := lv_entry ([.int p0]) (n := 1) (Nat.le_of_ble_eq_true rfl)
  rw [lg_entry_eq]
  generalize (lg_sl ([.int p0]) ++ List.replicate (1 - (lg_sl ([.int p0])).length) Slot.unset).toArray = ls at hl ⊢
  have hl : lv_has ls 1 [(0, .int p0)] := hl
  refine W_gen (A := A) hP (fun H locs hP hS => ?_)
  refine lv_iload_n hx hb dX5_isLetter_0 rfl (lv_at hl 0 rfl) ?_
  refine lv_bipush (v := 97) hx hb dX5_isLetter_1 (by decide) ?_
  refine lv_icmp_lt (tgt := 16) hx hb dX5_isLetter_3 (by decide) (fun c_1 => ?_) (fun c_1 => ?_)
  · skip
    have h_2 : rg (-2147483648) (96) p0 := by have ha := (rg_any p0); have hb_ := (rg_k (x := 97) (c := 97) (by decide)); simp only [rg, fa_lt, fa_le, fa_eq, (by decide : (97 : Int32).toInt = 97)] at ha hb_ c_1; simp only [rg]; omega
    refine lv_iconst (v := 0) hx hb dX5_isLetter_16 (by decide) ?_
    have hP9 := hP.sub (ws' := []) [] rfl
    have hD9 := hD.sub (ws' := []) [] (by decide) rfl
    exact W.zret (v := 0) hx hb hr (rfl) (fun t ht hW => ⟨⟨0, (), rfl, (rg_mono (rg_k (x := 0) (c := 0) (by decide)) (by decide) (by decide)), ⟨by rw [ht]; exact hP9, hD9⟩⟩, hS.F ht⟩) hS.2.2 dX5_isLetter_17
  · skip
    have h_3 : rg (97) (2147483647) p0 := by have ha := (rg_any p0); have hb_ := (rg_k (x := 97) (c := 97) (by decide)); simp only [rg, fa_lt, fa_le, fa_eq, (by decide : (97 : Int32).toInt = 97)] at ha hb_ c_1; simp only [rg]; omega
    refine lv_iload_n hx hb dX5_isLetter_6 rfl (lv_at hl 0 rfl) ?_
    refine lv_bipush (v := 122) hx hb dX5_isLetter_7 (by decide) ?_
    refine lv_icmp_gt (tgt := 16) hx hb dX5_isLetter_9 (by decide) (fun c_4 => ?_) (fun c_4 => ?_)
    · skip
      have h_5 : rg (123) (2147483647) p0 := by have ha := h_3; have hb_ := (rg_k (x := 122) (c := 122) (by decide)); simp only [rg, fa_lt, fa_le, fa_eq, (by decide : (122 : Int32).toInt = 122)] at ha hb_ c_4; simp only [rg]; omega
      refine lv_iconst (v := 0) hx hb dX5_isLetter_16 (by decide) ?_
      have hP9 := hP.sub (ws' := []) [] rfl
      have hD9 := hD.sub (ws' := []) [] (by decide) rfl
      exact W.zret (v := 0) hx hb hr (rfl) (fun t ht hW => ⟨⟨0, (), rfl, (rg_mono (rg_k (x := 0) (c := 0) (by decide)) (by decide) (by decide)), ⟨by rw [ht]; exact hP9, hD9⟩⟩, hS.F ht⟩) hS.2.2 dX5_isLetter_17
    · skip
      have h_6 : rg (97) (122) p0 := by have ha := h_3; have hb_ := (rg_k (x := 122) (c := 122) (by decide)); simp only [rg, fa_lt, fa_le, fa_eq, (by decide : (122 : Int32).toInt = 122)] at ha hb_ c_4; simp only [rg]; omega
      refine lv_iconst (v := 1) hx hb dX5_isLetter_12 (by decide) ?_
      refine lv_goto (tgt := 17) hx hb dX5_isLetter_13 (by decide) ?_
      have hP9 := hP.sub (ws' := []) [] rfl
      have hD9 := hD.sub (ws' := []) [] (by decide) rfl
      exact W.zret (v := 1) hx hb hr (rfl) (fun t ht hW => ⟨⟨1, (), rfl, (rg_mono (rg_k (x := 1) (c := 1) (by decide)) (by decide) (by decide)), ⟨by rw [ht]; exact hP9, hD9⟩⟩, hS.F ht⟩) hS.2.2 dX5_isLetter_17
def v_s_X5_isDigit : List Cond := Cond.code yX5_isDigit cX5_isDigit 1 (some .boolean) :: ([] ++ ([]))
theorem k_s_X5_isDigit : GoodIn lw_tbl v_s_X5_isDigit := gd_c (List.mem_of_getElem? (i := 616) (by decide +kernel)) rfl (goodIn_app (gd_nil) (gd_nil))
set_option maxHeartbeats 2000000 in
set_option maxRecDepth 100000 in
theorem c_s_X5_isDigit (l : Launch) (dC : Nat → ClassId) (dI : Nat → Nat → Nat) (cB cI cJ cZ cP : ClassId) (p0 : Int32) (sz : Nat) : Met l yX5_isDigit v_s_X5_isDigit ({ frames := 0, cells := 0, slots := 0, locals := 0 }) (va_Pc [.int p0] (fun U => U.heap.size = sz ∧ va_P (dC, dI) vwCl [] U.heap ∧ va_K (dC, dI) vwCl (ty5 cB cI cJ cZ cP) U ∧ va_D (fun _ => True) [])) (va_Qi (fun (r : Int32) (u9 : Unit) => rg (0) (1) r) (fun u9 t => va_P (dC, dI) vwCl [] t.heap ∧ va_D (va_A [] sz) []) (va_A [] sz)) 0 0 (va_A [] sz) := by
  refine Met.ofW (cc := cX5_isDigit) (maxL := 1) (ret := (some .boolean)) (by decide) rfl ?_
  intro p e s m args below meth c s₁ B hml hv
  obtain ⟨rfl, hsz, hP, hK, hD0⟩ := hv
  have hx := B.exec
  have hb := B.bytes
  have hr := B.returns
  have hts := atoms_spec (ws := v_s_X5_isDigit) B.pre
  have hown : s.vm.findClass RX5 = some m.cls := findClass_of_methodNamed B.named
  have hlocks := B.notSynchronized
  subst hsz
  have hD := hD0.self (sz := s.heap.size)
  generalize hAe : va_A [] s.heap.size = A at hD ⊢
  have hA : ∀ q : Nat, s.heap.size ≤ q → A q := fun q h => by rw [← hAe]; exact Or.inr h
  have hP : va_P (dC, dI) vwCl [] s.heap := hP
  have hl := lv_entry ([.int p0]) (n := 1) (Nat.le_of_ble_eq_true rfl)
  rw [lg_entry_eq]
  generalize (lg_sl ([.int p0]) ++ List.replicate (1 - (lg_sl ([.int p0])).length) Slot.unset).toArray = ls at hl ⊢
  have hl : lv_has ls 1 [(0, .int p0)] := hl
  refine W_gen (A := A) hP (fun H locs hP hS => ?_)
  refine lv_iload_n hx hb dX5_isDigit_0 rfl (lv_at hl 0 rfl) ?_
  refine lv_bipush (v := 48) hx hb dX5_isDigit_1 (by decide) ?_
  refine lv_icmp_lt (tgt := 16) hx hb dX5_isDigit_3 (by decide) (fun c_1 => ?_) (fun c_1 => ?_)
  · skip
    have h_2 : rg (-2147483648) (47) p0 := by have ha := (rg_any p0); have hb_ := (rg_k (x := 48) (c := 48) (by decide)); simp only [rg, fa_lt, fa_le, fa_eq, (by decide : (48 : Int32).toInt = 48)] at ha hb_ c_1; simp only [rg]; omega
    refine lv_iconst (v := 0) hx hb dX5_isDigit_16 (by decide) ?_
    have hP9 := hP.sub (ws' := []) [] rfl
    have hD9 := hD.sub (ws' := []) [] (by decide) rfl
    exact W.zret (v := 0) hx hb hr (rfl) (fun t ht hW => ⟨⟨0, (), rfl, (rg_mono (rg_k (x := 0) (c := 0) (by decide)) (by decide) (by decide)), ⟨by rw [ht]; exact hP9, hD9⟩⟩, hS.F ht⟩) hS.2.2 dX5_isDigit_17
  · skip
    have h_3 : rg (48) (2147483647) p0 := by have ha := (rg_any p0); have hb_ := (rg_k (x := 48) (c := 48) (by decide)); simp only [rg, fa_lt, fa_le, fa_eq, (by decide : (48 : Int32).toInt = 48)] at ha hb_ c_1; simp only [rg]; omega
    refine lv_iload_n hx hb dX5_isDigit_6 rfl (lv_at hl 0 rfl) ?_
    refine lv_bipush (v := 57) hx hb dX5_isDigit_7 (by decide) ?_
    refine lv_icmp_gt (tgt := 16) hx hb dX5_isDigit_9 (by decide) (fun c_4 => ?_) (fun c_4 => ?_)
    · skip
      have h_5 : rg (58) (2147483647) p0 := by have ha := h_3; have hb_ := (rg_k (x := 57) (c := 57) (by decide)); simp only [rg, fa_lt, fa_le, fa_eq, (by decide : (57 : Int32).toInt = 57)] at ha hb_ c_4; simp only [rg]; omega
      refine lv_iconst (v := 0) hx hb dX5_isDigit_16 (by decide) ?_
      have hP9 := hP.sub (ws' := []) [] rfl
      have hD9 := hD.sub (ws' := []) [] (by decide) rfl
      exact W.zret (v := 0) hx hb hr (rfl) (fun t ht hW => ⟨⟨0, (), rfl, (rg_mono (rg_k (x := 0) (c := 0) (by decide)) (by decide) (by decide)), ⟨by rw [ht]; exact hP9, hD9⟩⟩, hS.F ht⟩) hS.2.2 dX5_isDigit_17
    · skip
      have h_6 : rg (48) (57) p0 := by have ha := h_3; have hb_ := (rg_k (x := 57) (c := 57) (by decide)); simp only [rg, fa_lt, fa_le, fa_eq, (by decide : (57 : Int32).toInt = 57)] at ha hb_ c_4; simp only [rg]; omega
      refine lv_iconst (v := 1) hx hb dX5_isDigit_12 (by decide) ?_
      refine lv_goto (tgt := 17) hx hb dX5_isDigit_13 (by decide) ?_
      have hP9 := hP.sub (ws' := []) [] rfl
      have hD9 := hD.sub (ws' := []) [] (by decide) rfl
      exact W.zret (v := 1) hx hb hr (rfl) (fun t ht hW => ⟨⟨1, (), rfl, (rg_mono (rg_k (x := 1) (c := 1) (by decide)) (by decide) (by decide)), ⟨by rw [ht]; exact hP9, hD9⟩⟩, hS.F ht⟩) hS.2.2 dX5_isDigit_17
def v_s_X5_kindOf : List Cond := Cond.code yX5_kindOf cX5_kindOf 4 (some .int) :: ([Cond.fieldLink RX5 9 "MayRings$Reader" "words" "[J"] ++ (wsX50 ++ ([])))
theorem k_s_X5_kindOf : GoodIn lw_tbl v_s_X5_kindOf := gd_c (List.mem_of_getElem? (i := 613) (by decide +kernel)) rfl (goodIn_app (gd_c (List.mem_of_getElem? (i := 307) (by decide +kernel)) rfl (gd_nil)) (goodIn_app kfX5 (gd_nil)))
set_option maxHeartbeats 2000000 in
set_option maxRecDepth 100000 in
theorem c_s_X5_kindOf (l : Launch) (dC : Nat → ClassId) (dI : Nat → Nat → Nat) (cB cI cJ cZ cP : ClassId) (h0 : Nat) (h1 : Nat) (g0 : Nat → Int64) (h2 : Nat) (h3 : Nat) (h4 : Nat) (a0 : Int32) (a1 : Int32) (h5 : Nat) (a9 : Int32) (a10 : Int32) (a11 : Int32) (a12 : Int32) (a13 : Int32) (y0 : Int64) (sz : Nat) : Met l yX5_kindOf v_s_X5_kindOf ({ frames := 0, cells := 0, slots := 0, locals := 0 }) (va_Pc [.ref h0, .long y0] (fun U => U.heap.size = sz ∧ va_P (dC, dI) vwCl [(h0, .inr (5, [.ref h1, .ref h2, .ref h3, .ref h4, .int a0, .int a1, .ref h5, .int a9, .int a10, .int a11, .int a12, .int a13])), (h1, .inl (cJ, 15, .inr (.inl g0)))] U.heap ∧ va_K (dC, dI) vwCl (ty5 cB cI cJ cZ cP) U ∧ va_D (fun _ => True) [(h0, .inr (5, [.ref h1, .ref h2, .ref h3, .ref h4, .int a0, .int a1, .ref h5, .int a9, .int a10, .int a11, .int a12, .int a13])), (h1, .inl (cJ, 15, .inr (.inl g0)))])) (va_Qi (fun (r : Int32) (u9 : Unit) => rg (1) (16) r) (fun u9 t => va_P (dC, dI) vwCl [(h0, .inr (5, [.ref h1, .ref h2, .ref h3, .ref h4, .int a0, .int a1, .ref h5, .int a9, .int a10, .int a11, .int a12, .int a13])), (h1, .inl (cJ, 15, .inr (.inl g0)))] t.heap ∧ va_D (va_A [(h0, .inr (5, [.ref h1, .ref h2, .ref h3, .ref h4, .int a0, .int a1, .ref h5, .int a9, .int a10, .int a11, .int a12, .int a13])), (h1, .inl (cJ, 15, .inr (.inl g0)))] sz) [(h0, .inr (5, [.ref h1, .ref h2, .ref h3, .ref h4, .int a0, .int a1, .ref h5, .int a9, .int a10, .int a11, .int a12, .int a13])), (h1, .inl (cJ, 15, .inr (.inl g0)))]) (va_A [(h0, .inr (5, [.ref h1, .ref h2, .ref h3, .ref h4, .int a0, .int a1, .ref h5, .int a9, .int a10, .int a11, .int a12, .int a13])), (h1, .inl (cJ, 15, .inr (.inl g0)))] sz)) 0 0 (va_A [(h0, .inr (5, [.ref h1, .ref h2, .ref h3, .ref h4, .int a0, .int a1, .ref h5, .int a9, .int a10, .int a11, .int a12, .int a13])), (h1, .inl (cJ, 15, .inr (.inl g0)))] sz) := by
  refine Met.ofW (cc := cX5_kindOf) (maxL := 4) (ret := (some .int)) (by decide) rfl ?_
  intro p e s m args below meth c s₁ B hml hv
  obtain ⟨rfl, hsz, hP, hK, hD0⟩ := hv
  have hx := B.exec
  have hb := B.bytes
  have hr := B.returns
  have hts := atoms_spec (ws := v_s_X5_kindOf) B.pre
  have hown : s.vm.findClass RX5 = some m.cls := findClass_of_methodNamed B.named
  have hlocks := B.notSynchronized
  have hinX5 : ∀ w ∈ wsX50, w ∈ v_s_X5_kindOf := fun _ h => List.mem_cons_of_mem _ (List.mem_append_right _ (List.mem_append_left _ h))
  subst hsz
  have hD := hD0.self (sz := s.heap.size)
  generalize hAe : va_A [(h0, .inr (5, [.ref h1, .ref h2, .ref h3, .ref h4, .int a0, .int a1, .ref h5, .int a9, .int a10, .int a11, .int a12, .int a13])), (h1, .inl (cJ, 15, .inr (.inl g0)))] s.heap.size = A at hD ⊢
  have hA : ∀ q : Nat, s.heap.size ≤ q → A q := fun q h => by rw [← hAe]; exact Or.inr h
  have hP : va_P (dC, dI) vwCl [(h0, .inr (5, [.ref h1, .ref h2, .ref h3, .ref h4, .int a0, .int a1, .ref h5, .int a9, .int a10, .int a11, .int a12, .int a13])), (h1, .inl (cJ, 15, .inr (.inl g0)))] s.heap := hP
  have hl := lv_entry ([.ref h0, .long y0]) (n := 4) (Nat.le_of_ble_eq_true rfl)
  rw [lg_entry_eq]
  generalize (lg_sl ([.ref h0, .long y0]) ++ List.replicate (4 - (lg_sl ([.ref h0, .long y0])).length) Slot.unset).toArray = ls at hl ⊢
  have hl : lv_has ls 4 [(0, .ref h0), (1, .long y0)] := hl
  refine W_gen (A := A) hP (fun H locs hP hS => ?_)
  refine lv_iconst (v := 0) hx hb dX5_kindOf_0 (by decide) ?_
  refine lv_istore_n (lv' := [(3, .int 0), (0, .ref h0), (1, .long y0)]) hx hb dX5_kindOf_1 rfl hl (by decide) rfl (fun ls hl => ?_)
  refine W_loopM (σ := Int32) (fun u H locs ls => va_P (dC, dI) vwCl [(h0, .inr (5, [.ref h1, .ref h2, .ref h3, .ref h4, .int a0, .int a1, .ref h5, .int a9, .int a10, .int a11, .int a12, .int a13])), (h1, .inl (cJ, 15, .inr (.inl g0)))] H ∧ va_D A [(h0, .inr (5, [.ref h1, .ref h2, .ref h3, .ref h4, .int a0, .int a1, .ref h5, .int a9, .int a10, .int a11, .int a12, .int a13])), (h1, .inl (cJ, 15, .inr (.inl g0)))] ∧ va_S A s.heap H locs ∧ lv_has ls 4 [(3, .int u), (0, .ref h0), (1, .long y0)] ∧ rg (0) (15) u) (fun u => ((15) - u.toInt).toNat) 2 [] ?_ (0) H locs ls ⟨hP, hD, hS, hl, (rg_mono (rg_k (x := 0) (c := 0) (by decide)) (by decide) (by decide))⟩
  rintro x_93 H locs ls ⟨hP, hD, hS, hl, hx_93⟩ ih_103
  replace hP : va_P (dC, dI) vwCl [(h0, .inr (5, [.ref h1, .ref h2, .ref h3, .ref h4, .int a0, .int a1, .ref h5, .int a9, .int a10, .int a11, .int a12, .int a13])), (h1, .inl (cJ, 15, .inr (.inl g0)))] H := hP
  replace hD : va_D A [(h0, .inr (5, [.ref h1, .ref h2, .ref h3, .ref h4, .int a0, .int a1, .ref h5, .int a9, .int a10, .int a11, .int a12, .int a13])), (h1, .inl (cJ, 15, .inr (.inl g0)))] := hD
  replace hl : lv_has ls 4 [(3, .int x_93), (0, .ref h0), (1, .long y0)] := hl
  replace hx_93 : rg (0) (15) x_93 := hx_93
  refine lv_iload_n hx hb dX5_kindOf_2 rfl (lv_at hl 0 rfl) ?_
  refine lv_bipush (v := 15) hx hb dX5_kindOf_3 (by decide) ?_
  refine lv_icmp_ge (tgt := 29) hx hb dX5_kindOf_5 (by decide) (fun c_104 => ?_) (fun c_104 => ?_)
  · skip
    have h_105 : rg (15) (15) x_93 := by have ha := hx_93; have hb_ := (rg_k (x := 15) (c := 15) (by decide)); simp only [rg, fa_lt, fa_le, fa_eq, (by decide : (15 : Int32).toInt = 15)] at ha hb_ c_104; simp only [rg]; omega
    refine lv_bipush (v := 16) hx hb dX5_kindOf_29 (by decide) ?_
    have hP9 := hP.sub (ws' := [(h0, .inr (5, [.ref h1, .ref h2, .ref h3, .ref h4, .int a0, .int a1, .ref h5, .int a9, .int a10, .int a11, .int a12, .int a13])), (h1, .inl (cJ, 15, .inr (.inl g0)))]) [0, 1] rfl
    have hD9 := hD.sub (ws' := [(h0, .inr (5, [.ref h1, .ref h2, .ref h3, .ref h4, .int a0, .int a1, .ref h5, .int a9, .int a10, .int a11, .int a12, .int a13])), (h1, .inl (cJ, 15, .inr (.inl g0)))]) [0, 1] (by decide) rfl
    exact W.iret (v := 16) hx hb hr (fun t ht hW => ⟨⟨16, (), rfl, (rg_mono (rg_k (x := 16) (c := 16) (by decide)) (by decide) (by decide)), ⟨by rw [ht]; exact hP9, hD9⟩⟩, hS.F ht⟩) hS.2.2 dX5_kindOf_31
  · skip
    have h_106 : rg (0) (14) x_93 := by have ha := hx_93; have hb_ := (rg_k (x := 15) (c := 15) (by decide)); simp only [rg, fa_lt, fa_le, fa_eq, (by decide : (15 : Int32).toInt = 15)] at ha hb_ c_104; simp only [rg]; omega
    refine lv_aload_n hx hb dX5_kindOf_8 rfl (lv_at hl 1 rfl) ?_
    refine va_get (D := (dC, dI)) (ci := 5) (v := .ref h1) (C := RX5) (T := TX5) (N := 12) hx hb hts hinX5 hown hK hP 0 rfl rfl 0 (by decide) (hts (.fieldLink RX5 9 "MayRings$Reader" "words" "[J") (List.mem_of_getElem? (i := 1) rfl)) (fun _ h9 => h9) rfl dX5_kindOf_9 ?_
    refine lv_iload_n hx hb dX5_kindOf_12 rfl (lv_at hl 0 rfl) ?_
    refine va_lald hx hb hK hP 1 2 rfl rfl (rg_in (n := 15) (rg_mono h_106 (by decide) (by decide))) dX5_kindOf_13 ?_
    refine lv_topl (fun y_107 ey_107 => ?_)
    clear ey_107
    refine lv_lload_n hx hb dX5_kindOf_14 rfl (lv_at hl 2 rfl) ?_
    refine W.lcmp hx hb dX5_kindOf_15 ?_
    refine lv_topi (fun x_108 ex_108 => ?_)
    refine lv_if_ne (tgt := 23) hx hb dX5_kindOf_16 (by decide) (fun c_109 => ?_) (fun c_109 => ?_)
    · skip
      obtain ⟨x_110, ex_110⟩ : ∃ y : Int32, y = x_93 + Int32.ofInt (1) := ⟨_, rfl⟩
      have hx_110 : rg (1) (15) x_110 := by rw [ex_110]; exact rg_mono (rg_add h_106 (rg_k (x := Int32.ofInt (1)) (c := 1) (by decide)) (by decide) (by decide)) (by decide) (by decide)
      have qx_110 : x_110.toInt = x_93.toInt + (1) := by rw [ex_110]; exact rg_addE h_106 (rg_k (x := Int32.ofInt (1)) (c := 1) (by decide)) (by decide) (by decide) (by decide)
      refine lv_iinc (v := x_110) (lv' := [(3, .int x_110), (0, .ref h0), (1, .long y0)]) hx hb dX5_kindOf_23 hl (k := 0) rfl (ex_110.symm) (by decide) rfl (fun ls hl => ?_)
      clear ex_110
      refine lv_goto (tgt := 2) hx hb dX5_kindOf_26 (by decide) ?_
      exact ih_103 (x_110) H locs ls ⟨hP.sub (ws' := [(h0, .inr (5, [.ref h1, .ref h2, .ref h3, .ref h4, .int a0, .int a1, .ref h5, .int a9, .int a10, .int a11, .int a12, .int a13])), (h1, .inl (cJ, 15, .inr (.inl g0)))]) [0, 1] rfl, hD.sub (ws' := [(h0, .inr (5, [.ref h1, .ref h2, .ref h3, .ref h4, .int a0, .int a1, .ref h5, .int a9, .int a10, .int a11, .int a12, .int a13])), (h1, .inl (cJ, 15, .inr (.inl g0)))]) [0, 1] (by decide) rfl, hS, lv_sub hl [0, 1, 2] rfl, (rg_mono hx_110 (by decide) (by decide))⟩ (by show ((15) - x_110.toInt).toNat < ((15) - x_93.toInt).toNat; have ha := h_106; simp only [rg] at ha; omega)
    · skip
      have h_111 : rg (0) (0) x_108 := by have ha := (rg_any x_108); have hb_ := (rg_k (x := 0) (c := 0) (by decide)); simp only [rg, fa_lt, fa_le, fa_eq, (by decide : (0 : Int32).toInt = 0)] at ha hb_ c_109; simp only [rg]; omega
      refine lv_iload_n hx hb dX5_kindOf_19 rfl (lv_at hl 0 rfl) ?_
      refine lv_iconst (v := 1) hx hb dX5_kindOf_20 (by decide) ?_
      refine lv_iadd hx hb dX5_kindOf_21 ?_
      refine lv_topi (fun x_112 ex_112 => ?_)
      have hx_112 : rg (1) (15) x_112 := by rw [ex_112]; exact rg_mono (rg_add h_106 (rg_k (x := 1) (c := 1) (by decide)) (by decide) (by decide)) (by decide) (by decide)
      have qx_112 : x_112.toInt = x_93.toInt + (1) := by rw [ex_112]; exact rg_addE h_106 (rg_k (x := 1) (c := 1) (by decide)) (by decide) (by decide) trivial
      have hP9 := hP.sub (ws' := [(h0, .inr (5, [.ref h1, .ref h2, .ref h3, .ref h4, .int a0, .int a1, .ref h5, .int a9, .int a10, .int a11, .int a12, .int a13])), (h1, .inl (cJ, 15, .inr (.inl g0)))]) [0, 1] rfl
      have hD9 := hD.sub (ws' := [(h0, .inr (5, [.ref h1, .ref h2, .ref h3, .ref h4, .int a0, .int a1, .ref h5, .int a9, .int a10, .int a11, .int a12, .int a13])), (h1, .inl (cJ, 15, .inr (.inl g0)))]) [0, 1] (by decide) rfl
      exact W.iret (v := x_112) hx hb hr (fun t ht hW => ⟨⟨x_112, (), rfl, (rg_mono hx_112 (by decide) (by decide)), ⟨by rw [ht]; exact hP9, hD9⟩⟩, hS.F ht⟩) hS.2.2 dX5_kindOf_22
def v_s_X5_step : List Cond := Cond.code yX5_step cX5_step 1 none :: ([Cond.fieldLink RX5 49 "MayRings$Reader" "fault" "I", Cond.fieldLink RX5 29 "MayRings$Reader" "here" "I", Cond.fieldLink RX5 25 "MayRings$Reader" "count" "I"] ++ (wsX50 ++ ([])))
theorem k_s_X5_step : GoodIn lw_tbl v_s_X5_step := gd_c (List.mem_of_getElem? (i := 706) (by decide +kernel)) rfl (goodIn_app (gd_c (List.mem_of_getElem? (i := 317) (by decide +kernel)) rfl (gd_c (List.mem_of_getElem? (i := 312) (by decide +kernel)) rfl (gd_c (List.mem_of_getElem? (i := 311) (by decide +kernel)) rfl (gd_nil)))) (goodIn_app kfX5 (gd_nil)))
set_option maxHeartbeats 2000000 in
set_option maxRecDepth 100000 in
theorem c_s_X5_step (l : Launch) (dC : Nat → ClassId) (dI : Nat → Nat → Nat) (cB cI cJ cZ cP : ClassId) (h0 : Nat) (h1 : Nat) (h2 : Nat) (h3 : Nat) (h4 : Nat) (a0 : Int32) (ha0 : rg (0) (1601) a0) (a1 : Int32) (ha1 : rg (0) (1600) a1) (h5 : Nat) (a9 : Int32) (a10 : Int32) (a11 : Int32) (a12 : Int32) (a13 : Int32) (sz : Nat) : Met l yX5_step v_s_X5_step ({ frames := 0, cells := 0, slots := 0, locals := 0 }) (va_Pc [.ref h0] (fun U => U.heap.size = sz ∧ va_P (dC, dI) vwCl [(h0, .inr (5, [.ref h1, .ref h2, .ref h3, .ref h4, .int a0, .int a1, .ref h5, .int a9, .int a10, .int a11, .int a12, .int a13]))] U.heap ∧ va_K (dC, dI) vwCl (ty5 cB cI cJ cZ cP) U ∧ va_D (fun _ => True) [(h0, .inr (5, [.ref h1, .ref h2, .ref h3, .ref h4, .int a0, .int a1, .ref h5, .int a9, .int a10, .int a11, .int a12, .int a13]))])) (va_Qv (fun _ : Unit => True) (fun _ t => ∃ (z0 : Int32), rg (0) (1600) z0 ∧ va_P (dC, dI) vwCl [(h0, .inr (5, [.ref h1, .ref h2, .ref h3, .ref h4, .int a0, .int z0, .ref h5, .int a9, .int a10, .int a11, .int a12, .int a13]))] t.heap ∧ va_D (va_A [(h0, .inr (5, [.ref h1, .ref h2, .ref h3, .ref h4, .int a0, .int a1, .ref h5, .int a9, .int a10, .int a11, .int a12, .int a13]))] sz) [(h0, .inr (5, [.ref h1, .ref h2, .ref h3, .ref h4, .int a0, .int z0, .ref h5, .int a9, .int a10, .int a11, .int a12, .int a13]))]) (va_A [(h0, .inr (5, [.ref h1, .ref h2, .ref h3, .ref h4, .int a0, .int a1, .ref h5, .int a9, .int a10, .int a11, .int a12, .int a13]))] sz)) 0 0 (va_A [(h0, .inr (5, [.ref h1, .ref h2, .ref h3, .ref h4, .int a0, .int a1, .ref h5, .int a9, .int a10, .int a11, .int a12, .int a13]))] sz) := by
  refine Met.ofW (cc := cX5_step) (maxL := 1) (ret := none) (by decide) rfl ?_
  intro p e s m args below meth c s₁ B hml hv
  obtain ⟨rfl, hsz, hP, hK, hD0⟩ := hv
  have hx := B.exec
  have hb := B.bytes
  have hr := B.returns
  have hts := atoms_spec (ws := v_s_X5_step) B.pre
  have hown : s.vm.findClass RX5 = some m.cls := findClass_of_methodNamed B.named
  have hlocks := B.notSynchronized
  have hinX5 : ∀ w ∈ wsX50, w ∈ v_s_X5_step := fun _ h => List.mem_cons_of_mem _ (List.mem_append_right _ (List.mem_append_left _ h))
  subst hsz
  have hD := hD0.self (sz := s.heap.size)
  generalize hAe : va_A [(h0, .inr (5, [.ref h1, .ref h2, .ref h3, .ref h4, .int a0, .int a1, .ref h5, .int a9, .int a10, .int a11, .int a12, .int a13]))] s.heap.size = A at hD ⊢
  have hA : ∀ q : Nat, s.heap.size ≤ q → A q := fun q h => by rw [← hAe]; exact Or.inr h
  have hP : va_P (dC, dI) vwCl [(h0, .inr (5, [.ref h1, .ref h2, .ref h3, .ref h4, .int a0, .int a1, .ref h5, .int a9, .int a10, .int a11, .int a12, .int a13]))] s.heap := hP
  have hl := lv_entry ([.ref h0]) (n := 1) (Nat.le_of_ble_eq_true rfl)
  rw [lg_entry_eq]
  generalize (lg_sl ([.ref h0]) ++ List.replicate (1 - (lg_sl ([.ref h0])).length) Slot.unset).toArray = ls at hl ⊢
  have hl : lv_has ls 1 [(0, .ref h0)] := hl
  refine W_gen (A := A) hP (fun H locs hP hS => ?_)
  refine lv_aload_n hx hb dX5_step_0 rfl (lv_at hl 0 rfl) ?_
  refine va_get (D := (dC, dI)) (ci := 5) (v := .int a12) (C := RX5) (T := TX5) (N := 12) hx hb hts hinX5 hown hK hP 0 rfl rfl 10 (by decide) (hts (.fieldLink RX5 49 "MayRings$Reader" "fault" "I") (List.mem_of_getElem? (i := 1) rfl)) (fun _ h9 => h9) rfl dX5_step_1 ?_
  refine lv_if_ne (tgt := 30) hx hb dX5_step_4 (by decide) (fun c_1 => ?_) (fun c_1 => ?_)
  · skip
    have hP9 := hP.sub (ws' := [(h0, .inr (5, [.ref h1, .ref h2, .ref h3, .ref h4, .int a0, .int a1, .ref h5, .int a9, .int a10, .int a11, .int a12, .int a13]))]) [0] rfl
    have hD9 := hD.sub (ws' := [(h0, .inr (5, [.ref h1, .ref h2, .ref h3, .ref h4, .int a0, .int a1, .ref h5, .int a9, .int a10, .int a11, .int a12, .int a13]))]) [0] (by decide) rfl
    exact W.vret hx hb hr (fun t ht hW => ⟨⟨(), rfl, trivial, ⟨a1, (rg_mono ha1 (by decide) (by decide)), by rw [ht]; exact hP9, hD9⟩⟩, hS.F ht⟩) hS.2.2 dX5_step_30
  · skip
    have h_2 : rg (0) (0) a12 := by have ha := (rg_any a12); have hb_ := (rg_k (x := 0) (c := 0) (by decide)); simp only [rg, fa_lt, fa_le, fa_eq, (by decide : (0 : Int32).toInt = 0)] at ha hb_ c_1; simp only [rg]; omega
    refine lv_aload_n hx hb dX5_step_7 rfl (lv_at hl 0 rfl) ?_
    refine va_get (D := (dC, dI)) (ci := 5) (v := .int a1) (C := RX5) (T := TX5) (N := 12) hx hb hts hinX5 hown hK hP 0 rfl rfl 5 (by decide) (hts (.fieldLink RX5 29 "MayRings$Reader" "here" "I") (List.mem_of_getElem? (i := 2) rfl)) (fun _ h9 => h9) rfl dX5_step_8 ?_
    refine lv_iconst (v := 1) hx hb dX5_step_11 (by decide) ?_
    refine lv_iadd hx hb dX5_step_12 ?_
    refine lv_topi (fun x_3 ex_3 => ?_)
    have hx_3 : rg (1) (1601) x_3 := by rw [ex_3]; exact rg_mono (rg_add ha1 (rg_k (x := 1) (c := 1) (by decide)) (by decide) (by decide)) (by decide) (by decide)
    have qx_3 : x_3.toInt = a1.toInt + (1) := by rw [ex_3]; exact rg_addE ha1 (rg_k (x := 1) (c := 1) (by decide)) (by decide) (by decide) trivial
    refine lv_aload_n hx hb dX5_step_13 rfl (lv_at hl 0 rfl) ?_
    refine va_get (D := (dC, dI)) (ci := 5) (v := .int a0) (C := RX5) (T := TX5) (N := 12) hx hb hts hinX5 hown hK hP 0 rfl rfl 4 (by decide) (hts (.fieldLink RX5 25 "MayRings$Reader" "count" "I") (List.mem_of_getElem? (i := 3) rfl)) (fun _ h9 => h9) rfl dX5_step_14 ?_
    refine lv_icmp_ge (tgt := 30) hx hb dX5_step_17 (by decide) (fun c_4 => ?_) (fun c_4 => ?_)
    · skip
      have hP9 := hP.sub (ws' := [(h0, .inr (5, [.ref h1, .ref h2, .ref h3, .ref h4, .int a0, .int a1, .ref h5, .int a9, .int a10, .int a11, .int a12, .int a13]))]) [0] rfl
      have hD9 := hD.sub (ws' := [(h0, .inr (5, [.ref h1, .ref h2, .ref h3, .ref h4, .int a0, .int a1, .ref h5, .int a9, .int a10, .int a11, .int a12, .int a13]))]) [0] (by decide) rfl
      exact W.vret hx hb hr (fun t ht hW => ⟨⟨(), rfl, trivial, ⟨a1, (rg_mono ha1 (by decide) (by decide)), by rw [ht]; exact hP9, hD9⟩⟩, hS.F ht⟩) hS.2.2 dX5_step_30
    · skip
      have h_5 : rg (1) (1600) x_3 := by have ha := hx_3; have hb_ := ha0; simp only [rg, fa_lt, fa_le, fa_eq] at ha hb_ c_4; simp only [rg]; omega
      have h_6 : rg (0) (1599) a1 := by have ha := h_5; have hb_ := ha1; simp only [rg] at ha hb_ ⊢; omega
      have h_7 : rg (2) (1601) a0 := by have ha := h_5; have hb_ := ha0; have hc_ := c_4; simp only [rg, fa_lt, fa_le, fa_eq] at ha hb_ hc_; simp only [rg]; omega
      have h_8 : rg (2) (1601) a0 := by have ha := hx_3; have hb_ := ha0; simp only [rg, fa_lt, fa_le, fa_eq] at ha hb_ c_4; simp only [rg]; omega
      refine lv_aload_n hx hb dX5_step_20 rfl (lv_at hl 0 rfl) ?_
      refine lv_dup hx hb dX5_step_21 rfl ?_
      refine va_get (D := (dC, dI)) (ci := 5) (v := .int a1) (C := RX5) (T := TX5) (N := 12) hx hb hts hinX5 hown hK hP 0 rfl rfl 5 (by decide) (hts (.fieldLink RX5 29 "MayRings$Reader" "here" "I") (List.mem_of_getElem? (i := 2) rfl)) (fun _ h9 => h9) rfl dX5_step_22 ?_
      refine lv_iconst (v := 1) hx hb dX5_step_25 (by decide) ?_
      refine lv_iadd hx hb dX5_step_26 ?_
      refine tp_v (.int x_3) (congrArg Value.int (ex_3.symm)) ?_
      refine va_put (D := (dC, dI)) (ci := 5) (v := .int x_3) (ty := .int) (C := RX5) (T := TX5) (N := 12) hx hb hts hinX5 tyX5 tyX5_ok nmX5 hown hK hP hD hS 0 rfl rfl 5 (by decide) (hts (.fieldLink RX5 29 "MayRings$Reader" "here" "I") (List.mem_of_getElem? (i := 2) rfl)) (fun _ h9 => h9) rfl (by decide +kernel) (rfl) (rfl) (Nat.le_of_ble_eq_true rfl) dX5_step_27 (fun H locs hP hD hS => ?_)
      replace hP : va_P (dC, dI) vwCl [(h0, .inr (5, [.ref h1, .ref h2, .ref h3, .ref h4, .int a0, .int x_3, .ref h5, .int a9, .int a10, .int a11, .int a12, .int a13]))] H := hP
      replace hD : va_D A [(h0, .inr (5, [.ref h1, .ref h2, .ref h3, .ref h4, .int a0, .int x_3, .ref h5, .int a9, .int a10, .int a11, .int a12, .int a13]))] := hD
      have hP9 := hP.sub (ws' := [(h0, .inr (5, [.ref h1, .ref h2, .ref h3, .ref h4, .int a0, .int x_3, .ref h5, .int a9, .int a10, .int a11, .int a12, .int a13]))]) [0] rfl
      have hD9 := hD.sub (ws' := [(h0, .inr (5, [.ref h1, .ref h2, .ref h3, .ref h4, .int a0, .int x_3, .ref h5, .int a9, .int a10, .int a11, .int a12, .int a13]))]) [0] (by decide) rfl
      exact W.vret hx hb hr (fun t ht hW => ⟨⟨(), rfl, trivial, ⟨x_3, (rg_mono h_5 (by decide) (by decide)), by rw [ht]; exact hP9, hD9⟩⟩, hS.F ht⟩) hS.2.2 dX5_step_30
def v_s_X5_refuse : List Cond := Cond.code yX5_refuse cX5_refuse 2 none :: ([Cond.fieldLink RX5 49 "MayRings$Reader" "fault" "I", Cond.fieldLink RX5 15 "MayRings$Reader" "kinds" "[I", Cond.fieldLink RX5 29 "MayRings$Reader" "here" "I", Cond.fieldLink RX5 19 "MayRings$Reader" "places" "[I", Cond.fieldLink RX5 52 "MayRings$Reader" "faultPlace" "I"] ++ (wsX50 ++ ([])))
theorem k_s_X5_refuse : GoodIn lw_tbl v_s_X5_refuse := gd_c (List.mem_of_getElem? (i := 702) (by decide +kernel)) rfl (goodIn_app (gd_c (List.mem_of_getElem? (i := 317) (by decide +kernel)) rfl (gd_c (List.mem_of_getElem? (i := 308) (by decide +kernel)) rfl (gd_c (List.mem_of_getElem? (i := 312) (by decide +kernel)) rfl (gd_c (List.mem_of_getElem? (i := 309) (by decide +kernel)) rfl (gd_c (List.mem_of_getElem? (i := 319) (by decide +kernel)) rfl (gd_nil)))))) (goodIn_app kfX5 (gd_nil)))
set_option maxHeartbeats 2000000 in
set_option maxRecDepth 100000 in
theorem c_s_X5_refuse (l : Launch) (dC : Nat → ClassId) (dI : Nat → Nat → Nat) (cB cI cJ cZ cP : ClassId) (h0 : Nat) (h1 : Nat) (h2 : Nat) (g1 : Nat → Int32) (h3 : Nat) (g2 : Nat → Int32) (h4 : Nat) (a0 : Int32) (a1 : Int32) (ha1 : rg (0) (1600) a1) (h5 : Nat) (a9 : Int32) (a10 : Int32) (a11 : Int32) (a12 : Int32) (a13 : Int32) (p0 : Int32) (sz : Nat) : Met l yX5_refuse v_s_X5_refuse ({ frames := 0, cells := 0, slots := 0, locals := 0 }) (va_Pc [.ref h0, .int p0] (fun U => U.heap.size = sz ∧ va_P (dC, dI) vwCl [(h0, .inr (5, [.ref h1, .ref h2, .ref h3, .ref h4, .int a0, .int a1, .ref h5, .int a9, .int a10, .int a11, .int a12, .int a13])), (h2, .inl (cI, 1601, .inl g1)), (h3, .inl (cI, 1601, .inl g2))] U.heap ∧ va_K (dC, dI) vwCl (ty5 cB cI cJ cZ cP) U ∧ va_D (fun _ => True) [(h0, .inr (5, [.ref h1, .ref h2, .ref h3, .ref h4, .int a0, .int a1, .ref h5, .int a9, .int a10, .int a11, .int a12, .int a13])), (h2, .inl (cI, 1601, .inl g1)), (h3, .inl (cI, 1601, .inl g2))])) (va_Qv (fun _ : Unit => True) (fun _ t => ∃ (z0 : Int32) (z1 : Int32), va_P (dC, dI) vwCl [(h0, .inr (5, [.ref h1, .ref h2, .ref h3, .ref h4, .int a0, .int a1, .ref h5, .int a9, .int a10, .int a11, .int z0, .int z1])), (h2, .inl (cI, 1601, .inl g1)), (h3, .inl (cI, 1601, .inl g2))] t.heap ∧ va_D (va_A [(h0, .inr (5, [.ref h1, .ref h2, .ref h3, .ref h4, .int a0, .int a1, .ref h5, .int a9, .int a10, .int a11, .int a12, .int a13])), (h2, .inl (cI, 1601, .inl g1)), (h3, .inl (cI, 1601, .inl g2))] sz) [(h0, .inr (5, [.ref h1, .ref h2, .ref h3, .ref h4, .int a0, .int a1, .ref h5, .int a9, .int a10, .int a11, .int z0, .int z1])), (h2, .inl (cI, 1601, .inl g1)), (h3, .inl (cI, 1601, .inl g2))]) (va_A [(h0, .inr (5, [.ref h1, .ref h2, .ref h3, .ref h4, .int a0, .int a1, .ref h5, .int a9, .int a10, .int a11, .int a12, .int a13])), (h2, .inl (cI, 1601, .inl g1)), (h3, .inl (cI, 1601, .inl g2))] sz)) 0 0 (va_A [(h0, .inr (5, [.ref h1, .ref h2, .ref h3, .ref h4, .int a0, .int a1, .ref h5, .int a9, .int a10, .int a11, .int a12, .int a13])), (h2, .inl (cI, 1601, .inl g1)), (h3, .inl (cI, 1601, .inl g2))] sz) := by
  refine Met.ofW (cc := cX5_refuse) (maxL := 2) (ret := none) (by decide) rfl ?_
  intro p e s m args below meth c s₁ B hml hv
  obtain ⟨rfl, hsz, hP, hK, hD0⟩ := hv
  have hx := B.exec
  have hb := B.bytes
  have hr := B.returns
  have hts := atoms_spec (ws := v_s_X5_refuse) B.pre
  have hown : s.vm.findClass RX5 = some m.cls := findClass_of_methodNamed B.named
  have hlocks := B.notSynchronized
  have hinX5 : ∀ w ∈ wsX50, w ∈ v_s_X5_refuse := fun _ h => List.mem_cons_of_mem _ (List.mem_append_right _ (List.mem_append_left _ h))
  subst hsz
  have hD := hD0.self (sz := s.heap.size)
  generalize hAe : va_A [(h0, .inr (5, [.ref h1, .ref h2, .ref h3, .ref h4, .int a0, .int a1, .ref h5, .int a9, .int a10, .int a11, .int a12, .int a13])), (h2, .inl (cI, 1601, .inl g1)), (h3, .inl (cI, 1601, .inl g2))] s.heap.size = A at hD ⊢
  have hA : ∀ q : Nat, s.heap.size ≤ q → A q := fun q h => by rw [← hAe]; exact Or.inr h
  have hP : va_P (dC, dI) vwCl [(h0, .inr (5, [.ref h1, .ref h2, .ref h3, .ref h4, .int a0, .int a1, .ref h5, .int a9, .int a10, .int a11, .int a12, .int a13])), (h2, .inl (cI, 1601, .inl g1)), (h3, .inl (cI, 1601, .inl g2))] s.heap := hP
  have hl := lv_entry ([.ref h0, .int p0]) (n := 2) (Nat.le_of_ble_eq_true rfl)
  rw [lg_entry_eq]
  generalize (lg_sl ([.ref h0, .int p0]) ++ List.replicate (2 - (lg_sl ([.ref h0, .int p0])).length) Slot.unset).toArray = ls at hl ⊢
  have hl : lv_has ls 2 [(0, .ref h0), (1, .int p0)] := hl
  refine W_gen (A := A) hP (fun H locs hP hS => ?_)
  refine lv_aload_n hx hb dX5_refuse_0 rfl (lv_at hl 0 rfl) ?_
  refine va_get (D := (dC, dI)) (ci := 5) (v := .int a12) (C := RX5) (T := TX5) (N := 12) hx hb hts hinX5 hown hK hP 0 rfl rfl 10 (by decide) (hts (.fieldLink RX5 49 "MayRings$Reader" "fault" "I") (List.mem_of_getElem? (i := 1) rfl)) (fun _ h9 => h9) rfl dX5_refuse_1 ?_
  refine lv_if_ne (tgt := 43) hx hb dX5_refuse_4 (by decide) (fun c_1 => ?_) (fun c_1 => ?_)
  · skip
    have hP9 := hP.sub (ws' := [(h0, .inr (5, [.ref h1, .ref h2, .ref h3, .ref h4, .int a0, .int a1, .ref h5, .int a9, .int a10, .int a11, .int a12, .int a13])), (h2, .inl (cI, 1601, .inl g1)), (h3, .inl (cI, 1601, .inl g2))]) [0, 1, 2] rfl
    have hD9 := hD.sub (ws' := [(h0, .inr (5, [.ref h1, .ref h2, .ref h3, .ref h4, .int a0, .int a1, .ref h5, .int a9, .int a10, .int a11, .int a12, .int a13])), (h2, .inl (cI, 1601, .inl g1)), (h3, .inl (cI, 1601, .inl g2))]) [0, 1, 2] (by decide) rfl
    exact W.vret hx hb hr (fun t ht hW => ⟨⟨(), rfl, trivial, ⟨a12, a13, by rw [ht]; exact hP9, hD9⟩⟩, hS.F ht⟩) hS.2.2 dX5_refuse_43
  · skip
    have h_2 : rg (0) (0) a12 := by have ha := (rg_any a12); have hb_ := (rg_k (x := 0) (c := 0) (by decide)); simp only [rg, fa_lt, fa_le, fa_eq, (by decide : (0 : Int32).toInt = 0)] at ha hb_ c_1; simp only [rg]; omega
    refine lv_aload_n hx hb dX5_refuse_7 rfl (lv_at hl 0 rfl) ?_
    refine lv_aload_n hx hb dX5_refuse_8 rfl (lv_at hl 0 rfl) ?_
    refine va_get (D := (dC, dI)) (ci := 5) (v := .ref h2) (C := RX5) (T := TX5) (N := 12) hx hb hts hinX5 hown hK hP 0 rfl rfl 1 (by decide) (hts (.fieldLink RX5 15 "MayRings$Reader" "kinds" "[I") (List.mem_of_getElem? (i := 2) rfl)) (fun _ h9 => h9) rfl dX5_refuse_9 ?_
    refine lv_aload_n hx hb dX5_refuse_12 rfl (lv_at hl 0 rfl) ?_
    refine va_get (D := (dC, dI)) (ci := 5) (v := .int a1) (C := RX5) (T := TX5) (N := 12) hx hb hts hinX5 hown hK hP 0 rfl rfl 5 (by decide) (hts (.fieldLink RX5 29 "MayRings$Reader" "here" "I") (List.mem_of_getElem? (i := 3) rfl)) (fun _ h9 => h9) rfl dX5_refuse_13 ?_
    refine va_iald hx hb hK hP 1 1 rfl rfl (rg_in (n := 1601) (rg_mono ha1 (by decide) (by decide))) dX5_refuse_16 ?_
    refine lv_topi (fun x_3 ex_3 => ?_)
    refine lv_bipush (v := 29) hx hb dX5_refuse_17 (by decide) ?_
    refine lv_icmp_ne (tgt := 26) hx hb dX5_refuse_19 (by decide) (fun c_4 => ?_) (fun c_4 => ?_)
    · skip
      refine lv_iload_n hx hb dX5_refuse_26 rfl (lv_at hl 1 rfl) ?_
      refine va_put (D := (dC, dI)) (ci := 5) (v := .int p0) (ty := .int) (C := RX5) (T := TX5) (N := 12) hx hb hts hinX5 tyX5 tyX5_ok nmX5 hown hK hP hD hS 0 rfl rfl 10 (by decide) (hts (.fieldLink RX5 49 "MayRings$Reader" "fault" "I") (List.mem_of_getElem? (i := 1) rfl)) (fun _ h9 => h9) rfl (by decide +kernel) (rfl) (rfl) (Nat.le_of_ble_eq_true rfl) dX5_refuse_27 (fun H locs hP hD hS => ?_)
      replace hP : va_P (dC, dI) vwCl [(h0, .inr (5, [.ref h1, .ref h2, .ref h3, .ref h4, .int a0, .int a1, .ref h5, .int a9, .int a10, .int a11, .int p0, .int a13])), (h2, .inl (cI, 1601, .inl g1)), (h3, .inl (cI, 1601, .inl g2))] H := hP
      replace hD : va_D A [(h0, .inr (5, [.ref h1, .ref h2, .ref h3, .ref h4, .int a0, .int a1, .ref h5, .int a9, .int a10, .int a11, .int p0, .int a13])), (h2, .inl (cI, 1601, .inl g1)), (h3, .inl (cI, 1601, .inl g2))] := hD
      refine lv_aload_n hx hb dX5_refuse_30 rfl (lv_at hl 0 rfl) ?_
      refine lv_aload_n hx hb dX5_refuse_31 rfl (lv_at hl 0 rfl) ?_
      refine va_get (D := (dC, dI)) (ci := 5) (v := .ref h3) (C := RX5) (T := TX5) (N := 12) hx hb hts hinX5 hown hK hP 0 rfl rfl 2 (by decide) (hts (.fieldLink RX5 19 "MayRings$Reader" "places" "[I") (List.mem_of_getElem? (i := 4) rfl)) (fun _ h9 => h9) rfl dX5_refuse_32 ?_
      refine lv_aload_n hx hb dX5_refuse_35 rfl (lv_at hl 0 rfl) ?_
      refine va_get (D := (dC, dI)) (ci := 5) (v := .int a1) (C := RX5) (T := TX5) (N := 12) hx hb hts hinX5 hown hK hP 0 rfl rfl 5 (by decide) (hts (.fieldLink RX5 29 "MayRings$Reader" "here" "I") (List.mem_of_getElem? (i := 3) rfl)) (fun _ h9 => h9) rfl dX5_refuse_36 ?_
      refine va_iald hx hb hK hP 2 1 rfl rfl (rg_in (n := 1601) (rg_mono ha1 (by decide) (by decide))) dX5_refuse_39 ?_
      refine lv_topi (fun x_5 ex_5 => ?_)
      refine va_put (D := (dC, dI)) (ci := 5) (v := .int x_5) (ty := .int) (C := RX5) (T := TX5) (N := 12) hx hb hts hinX5 tyX5 tyX5_ok nmX5 hown hK hP hD hS 0 rfl rfl 11 (by decide) (hts (.fieldLink RX5 52 "MayRings$Reader" "faultPlace" "I") (List.mem_of_getElem? (i := 5) rfl)) (fun _ h9 => h9) rfl (by decide +kernel) (rfl) (rfl) (Nat.le_of_ble_eq_true rfl) dX5_refuse_40 (fun H locs hP hD hS => ?_)
      replace hP : va_P (dC, dI) vwCl [(h0, .inr (5, [.ref h1, .ref h2, .ref h3, .ref h4, .int a0, .int a1, .ref h5, .int a9, .int a10, .int a11, .int p0, .int x_5])), (h2, .inl (cI, 1601, .inl g1)), (h3, .inl (cI, 1601, .inl g2))] H := hP
      replace hD : va_D A [(h0, .inr (5, [.ref h1, .ref h2, .ref h3, .ref h4, .int a0, .int a1, .ref h5, .int a9, .int a10, .int a11, .int p0, .int x_5])), (h2, .inl (cI, 1601, .inl g1)), (h3, .inl (cI, 1601, .inl g2))] := hD
      have hP9 := hP.sub (ws' := [(h0, .inr (5, [.ref h1, .ref h2, .ref h3, .ref h4, .int a0, .int a1, .ref h5, .int a9, .int a10, .int a11, .int p0, .int x_5])), (h2, .inl (cI, 1601, .inl g1)), (h3, .inl (cI, 1601, .inl g2))]) [0, 1, 2] rfl
      have hD9 := hD.sub (ws' := [(h0, .inr (5, [.ref h1, .ref h2, .ref h3, .ref h4, .int a0, .int a1, .ref h5, .int a9, .int a10, .int a11, .int p0, .int x_5])), (h2, .inl (cI, 1601, .inl g1)), (h3, .inl (cI, 1601, .inl g2))]) [0, 1, 2] (by decide) rfl
      exact W.vret hx hb hr (fun t ht hW => ⟨⟨(), rfl, trivial, ⟨p0, x_5, by rw [ht]; exact hP9, hD9⟩⟩, hS.F ht⟩) hS.2.2 dX5_refuse_43
    · skip
      have h_6 : rg (29) (29) x_3 := by have ha := (rg_any x_3); have hb_ := (rg_k (x := 29) (c := 29) (by decide)); simp only [rg, fa_lt, fa_le, fa_eq, (by decide : (29 : Int32).toInt = 29)] at ha hb_ c_4; simp only [rg]; omega
      refine lv_iconst (v := 1) hx hb dX5_refuse_22 (by decide) ?_
      refine lv_goto (tgt := 27) hx hb dX5_refuse_23 (by decide) ?_
      refine va_put (D := (dC, dI)) (ci := 5) (v := .int 1) (ty := .int) (C := RX5) (T := TX5) (N := 12) hx hb hts hinX5 tyX5 tyX5_ok nmX5 hown hK hP hD hS 0 rfl rfl 10 (by decide) (hts (.fieldLink RX5 49 "MayRings$Reader" "fault" "I") (List.mem_of_getElem? (i := 1) rfl)) (fun _ h9 => h9) rfl (by decide +kernel) (rfl) (rfl) (Nat.le_of_ble_eq_true rfl) dX5_refuse_27 (fun H locs hP hD hS => ?_)
      replace hP : va_P (dC, dI) vwCl [(h0, .inr (5, [.ref h1, .ref h2, .ref h3, .ref h4, .int a0, .int a1, .ref h5, .int a9, .int a10, .int a11, .int 1, .int a13])), (h2, .inl (cI, 1601, .inl g1)), (h3, .inl (cI, 1601, .inl g2))] H := hP
      replace hD : va_D A [(h0, .inr (5, [.ref h1, .ref h2, .ref h3, .ref h4, .int a0, .int a1, .ref h5, .int a9, .int a10, .int a11, .int 1, .int a13])), (h2, .inl (cI, 1601, .inl g1)), (h3, .inl (cI, 1601, .inl g2))] := hD
      refine lv_aload_n hx hb dX5_refuse_30 rfl (lv_at hl 0 rfl) ?_
      refine lv_aload_n hx hb dX5_refuse_31 rfl (lv_at hl 0 rfl) ?_
      refine va_get (D := (dC, dI)) (ci := 5) (v := .ref h3) (C := RX5) (T := TX5) (N := 12) hx hb hts hinX5 hown hK hP 0 rfl rfl 2 (by decide) (hts (.fieldLink RX5 19 "MayRings$Reader" "places" "[I") (List.mem_of_getElem? (i := 4) rfl)) (fun _ h9 => h9) rfl dX5_refuse_32 ?_
      refine lv_aload_n hx hb dX5_refuse_35 rfl (lv_at hl 0 rfl) ?_
      refine va_get (D := (dC, dI)) (ci := 5) (v := .int a1) (C := RX5) (T := TX5) (N := 12) hx hb hts hinX5 hown hK hP 0 rfl rfl 5 (by decide) (hts (.fieldLink RX5 29 "MayRings$Reader" "here" "I") (List.mem_of_getElem? (i := 3) rfl)) (fun _ h9 => h9) rfl dX5_refuse_36 ?_
      refine va_iald hx hb hK hP 2 1 rfl rfl (rg_in (n := 1601) (rg_mono ha1 (by decide) (by decide))) dX5_refuse_39 ?_
      refine lv_topi (fun x_7 ex_7 => ?_)
      refine va_put (D := (dC, dI)) (ci := 5) (v := .int x_7) (ty := .int) (C := RX5) (T := TX5) (N := 12) hx hb hts hinX5 tyX5 tyX5_ok nmX5 hown hK hP hD hS 0 rfl rfl 11 (by decide) (hts (.fieldLink RX5 52 "MayRings$Reader" "faultPlace" "I") (List.mem_of_getElem? (i := 5) rfl)) (fun _ h9 => h9) rfl (by decide +kernel) (rfl) (rfl) (Nat.le_of_ble_eq_true rfl) dX5_refuse_40 (fun H locs hP hD hS => ?_)
      replace hP : va_P (dC, dI) vwCl [(h0, .inr (5, [.ref h1, .ref h2, .ref h3, .ref h4, .int a0, .int a1, .ref h5, .int a9, .int a10, .int a11, .int 1, .int x_7])), (h2, .inl (cI, 1601, .inl g1)), (h3, .inl (cI, 1601, .inl g2))] H := hP
      replace hD : va_D A [(h0, .inr (5, [.ref h1, .ref h2, .ref h3, .ref h4, .int a0, .int a1, .ref h5, .int a9, .int a10, .int a11, .int 1, .int x_7])), (h2, .inl (cI, 1601, .inl g1)), (h3, .inl (cI, 1601, .inl g2))] := hD
      have hP9 := hP.sub (ws' := [(h0, .inr (5, [.ref h1, .ref h2, .ref h3, .ref h4, .int a0, .int a1, .ref h5, .int a9, .int a10, .int a11, .int 1, .int x_7])), (h2, .inl (cI, 1601, .inl g1)), (h3, .inl (cI, 1601, .inl g2))]) [0, 1, 2] rfl
      have hD9 := hD.sub (ws' := [(h0, .inr (5, [.ref h1, .ref h2, .ref h3, .ref h4, .int a0, .int a1, .ref h5, .int a9, .int a10, .int a11, .int 1, .int x_7])), (h2, .inl (cI, 1601, .inl g1)), (h3, .inl (cI, 1601, .inl g2))]) [0, 1, 2] (by decide) rfl
      exact W.vret hx hb hr (fun t ht hW => ⟨⟨(), rfl, trivial, ⟨1, x_7, by rw [ht]; exact hP9, hD9⟩⟩, hS.F ht⟩) hS.2.2 dX5_refuse_43
def v_s_X5_begin : List Cond := Cond.code yX5_begin cX5_begin 2 none :: ([Cond.methodLink RX5 122 yX5_step, Cond.instanceMethod yX5_step, Cond.selects RX5 yX5_step yX5_step, Cond.initialized RX5, Cond.methodLink RX5 118 yX5_refuse, Cond.instanceMethod yX5_refuse, Cond.selects RX5 yX5_refuse yX5_refuse] ++ (v_s_X5_step ++ (v_s_X5_refuse ++ ([]))))
theorem k_s_X5_begin : GoodIn lw_tbl v_s_X5_begin := gd_c (List.mem_of_getElem? (i := 698) (by decide +kernel)) rfl (goodIn_app (gd_c (List.mem_of_getElem? (i := 703) (by decide +kernel)) rfl (gd_c (List.mem_of_getElem? (i := 705) (by decide +kernel)) rfl (gd_c (List.mem_of_getElem? (i := 11) (by decide +kernel)) rfl (gd_c (List.mem_of_getElem? (i := 131) (by decide +kernel)) rfl (gd_c (List.mem_of_getElem? (i := 699) (by decide +kernel)) rfl (gd_c (List.mem_of_getElem? (i := 701) (by decide +kernel)) rfl (gd_c (List.mem_of_getElem? (i := 10) (by decide +kernel)) rfl (gd_nil)))))))) (goodIn_app k_s_X5_step (goodIn_app k_s_X5_refuse (gd_nil))))
set_option maxHeartbeats 2000000 in
set_option maxRecDepth 100000 in
theorem c_s_X5_begin (l : Launch) (dC : Nat → ClassId) (dI : Nat → Nat → Nat) (cB cI cJ cZ cP : ClassId) (h0 : Nat) (h1 : Nat) (h2 : Nat) (g1 : Nat → Int32) (h3 : Nat) (g2 : Nat → Int32) (h4 : Nat) (a0 : Int32) (ha0 : rg (0) (1601) a0) (a1 : Int32) (ha1 : rg (0) (1600) a1) (h5 : Nat) (a9 : Int32) (a10 : Int32) (a11 : Int32) (a12 : Int32) (a13 : Int32) (p0 : Int32) (hp0 : rg (0) (1) p0) (sz : Nat) : Met l yX5_begin v_s_X5_begin ({ frames := 1, cells := 0, slots := 0, locals := 21 }) (va_Pc [.ref h0, .int p0] (fun U => U.heap.size = sz ∧ va_P (dC, dI) vwCl [(h0, .inr (5, [.ref h1, .ref h2, .ref h3, .ref h4, .int a0, .int a1, .ref h5, .int a9, .int a10, .int a11, .int a12, .int a13])), (h2, .inl (cI, 1601, .inl g1)), (h3, .inl (cI, 1601, .inl g2))] U.heap ∧ va_K (dC, dI) vwCl (ty5 cB cI cJ cZ cP) U ∧ va_D (fun _ => True) [(h0, .inr (5, [.ref h1, .ref h2, .ref h3, .ref h4, .int a0, .int a1, .ref h5, .int a9, .int a10, .int a11, .int a12, .int a13])), (h2, .inl (cI, 1601, .inl g1)), (h3, .inl (cI, 1601, .inl g2))])) (va_Qv (fun _ : Unit => True) (fun _ t => ∃ (z0 : Int32) (z1 : Int32) (z2 : Int32), rg (0) (1600) z0 ∧ va_P (dC, dI) vwCl [(h0, .inr (5, [.ref h1, .ref h2, .ref h3, .ref h4, .int a0, .int z0, .ref h5, .int a9, .int a10, .int a11, .int z1, .int z2])), (h2, .inl (cI, 1601, .inl g1)), (h3, .inl (cI, 1601, .inl g2))] t.heap ∧ va_D (va_A [(h0, .inr (5, [.ref h1, .ref h2, .ref h3, .ref h4, .int a0, .int a1, .ref h5, .int a9, .int a10, .int a11, .int a12, .int a13])), (h2, .inl (cI, 1601, .inl g1)), (h3, .inl (cI, 1601, .inl g2))] sz) [(h0, .inr (5, [.ref h1, .ref h2, .ref h3, .ref h4, .int a0, .int z0, .ref h5, .int a9, .int a10, .int a11, .int z1, .int z2])), (h2, .inl (cI, 1601, .inl g1)), (h3, .inl (cI, 1601, .inl g2))]) (va_A [(h0, .inr (5, [.ref h1, .ref h2, .ref h3, .ref h4, .int a0, .int a1, .ref h5, .int a9, .int a10, .int a11, .int a12, .int a13])), (h2, .inl (cI, 1601, .inl g1)), (h3, .inl (cI, 1601, .inl g2))] sz)) 0 0 (va_A [(h0, .inr (5, [.ref h1, .ref h2, .ref h3, .ref h4, .int a0, .int a1, .ref h5, .int a9, .int a10, .int a11, .int a12, .int a13])), (h2, .inl (cI, 1601, .inl g1)), (h3, .inl (cI, 1601, .inl g2))] sz) := by
  refine Met.ofW (cc := cX5_begin) (maxL := 2) (ret := none) (by decide) rfl ?_
  intro p e s m args below meth c s₁ B hml hv
  obtain ⟨rfl, hsz, hP, hK, hD0⟩ := hv
  have hx := B.exec
  have hb := B.bytes
  have hr := B.returns
  have hts := atoms_spec (ws := v_s_X5_begin) B.pre
  have hown : s.vm.findClass RX5 = some m.cls := findClass_of_methodNamed B.named
  have hlocks := B.notSynchronized
  subst hsz
  have hD := hD0.self (sz := s.heap.size)
  generalize hAe : va_A [(h0, .inr (5, [.ref h1, .ref h2, .ref h3, .ref h4, .int a0, .int a1, .ref h5, .int a9, .int a10, .int a11, .int a12, .int a13])), (h2, .inl (cI, 1601, .inl g1)), (h3, .inl (cI, 1601, .inl g2))] s.heap.size = A at hD ⊢
  have hA : ∀ q : Nat, s.heap.size ≤ q → A q := fun q h => by rw [← hAe]; exact Or.inr h
  have hP : va_P (dC, dI) vwCl [(h0, .inr (5, [.ref h1, .ref h2, .ref h3, .ref h4, .int a0, .int a1, .ref h5, .int a9, .int a10, .int a11, .int a12, .int a13])), (h2, .inl (cI, 1601, .inl g1)), (h3, .inl (cI, 1601, .inl g2))] s.heap := hP
  have hl := lv_entry ([.ref h0, .int p0]) (n := 2) (Nat.le_of_ble_eq_true rfl)
  rw [lg_entry_eq]
  generalize (lg_sl ([.ref h0, .int p0]) ++ List.replicate (2 - (lg_sl ([.ref h0, .int p0])).length) Slot.unset).toArray = ls at hl ⊢
  have hl : lv_has ls 2 [(0, .ref h0), (1, .int p0)] := hl
  refine W_gen (A := A) hP (fun H locs hP hS => ?_)
  refine lv_iload_n hx hb dX5_begin_0 rfl (lv_at hl 1 rfl) ?_
  refine lv_if_ne (tgt := 9) hx hb dX5_begin_1 (by decide) (fun c_1 => ?_) (fun c_1 => ?_)
  · skip
    have h_2 : rg (1) (1) p0 := by have ha := hp0; have hb_ := (rg_k (x := 0) (c := 0) (by decide)); simp only [rg, fa_lt, fa_le, fa_eq, (by decide : (0 : Int32).toInt = 0)] at ha hb_ c_1; simp only [rg]; omega
    refine lv_aload_n hx hb dX5_begin_9 rfl (lv_at hl 0 rfl) ?_
    have hPc := hP.sub (ws' := [(h0, .inr (5, [.ref h1, .ref h2, .ref h3, .ref h4, .int a0, .int a1, .ref h5, .int a9, .int a10, .int a11, .int a12, .int a13]))]) [0] rfl
    have hDc := hD.sub (ws' := [(h0, .inr (5, [.ref h1, .ref h2, .ref h3, .ref h4, .int a0, .int a1, .ref h5, .int a9, .int a10, .int a11, .int a12, .int a13]))]) [0] (by decide) rfl
    have hFc := va_free (wc := [(h0, .inr (5, [.ref h1, .ref h2, .ref h3, .ref h4, .int a0, .int a1, .ref h5, .int a9, .int a10, .int a11, .int a12, .int a13]))]) hD hS hA [0] rfl
    refine va_callv (va_runV (As := []) (rest := []) ⟨hx, hb, hml, hown, hts⟩ (c_s_X5_step l dC dI cB cI cJ cZ cP h0 h1 h2 h3 h4 a0 (rg_mono ha0 (by decide) (by decide)) a1 (rg_mono ha1 (by decide) (by decide)) h5 a9 a10 a11 a12 a13 H.size) (cwV 0 hts (gd_V (List.mem_of_getElem? (i := 1) rfl) (List.mem_of_getElem? (i := 2) rfl) (List.mem_of_getElem? (i := 3) rfl) (List.mem_of_getElem? (i := 4) rfl) (gd_mono k_s_X5_step (fun _ h => List.mem_cons_of_mem _ (List.mem_append_right _ (List.mem_append_left _ h))))) rfl rfl rfl (by decide +kernel) ⟨Nat.le_of_ble_eq_true rfl, Nat.le_of_ble_eq_true rfl⟩) ⟨fun a U g mk q => by obtain ⟨q0, q1, qP, qK, qD⟩ := q; exact ⟨q0, q1, qP, va_K.moved (u := U) (U := U.calling g mk a) (Vm.Alike.refl U.vm) qK, qD⟩, va_recv hK hPc (ci := 5) (q0 := 0) rfl rfl, fun U hU hW => ⟨rfl, by rw [hU], by rw [hU]; exact hPc, va_K.moved hW.alike hK, hDc.weaken (fun _ _ _ _ => trivial)⟩⟩ rfl rfl hl.1 rfl (lv_room (Nat.le_of_ble_eq_true rfl)) dX5_begin_10 ⟨Nat.le_of_ble_eq_true rfl, Nat.le_of_ble_eq_true rfl⟩) hS (fun q _ h => hFc q h) hFc (fun u t H1 locs ht hvm hw hB hz1 hk1 hS => ?_)
    obtain ⟨x_4, hx_4, hP1, hD1⟩ := hB
    rw [ht] at hP1
    obtain ⟨hP, hD⟩ := va_join (wr := [(h2, .inl (cI, 1601, .inl g1)), (h3, .inl (cI, 1601, .inl g2))]) (w1 := [(h0, .inr (5, [.ref h1, .ref h2, .ref h3, .ref h4, .int a0, .int x_4, .ref h5, .int a9, .int a10, .int a11, .int a12, .int a13]))]) hP hD [0] [1, 2] rfl rfl (by decide) (by decide) hk1 hFc hP1 hD1
    generalize H1 = H at hP hS ⊢
    replace hP : va_P (dC, dI) vwCl [(h2, .inl (cI, 1601, .inl g1)), (h3, .inl (cI, 1601, .inl g2)), (h0, .inr (5, [.ref h1, .ref h2, .ref h3, .ref h4, .int a0, .int x_4, .ref h5, .int a9, .int a10, .int a11, .int a12, .int a13]))] H := hP
    replace hD : va_D A [(h2, .inl (cI, 1601, .inl g1)), (h3, .inl (cI, 1601, .inl g2)), (h0, .inr (5, [.ref h1, .ref h2, .ref h3, .ref h4, .int a0, .int x_4, .ref h5, .int a9, .int a10, .int a11, .int a12, .int a13]))] := hD
    have hP9 := hP.sub (ws' := [(h0, .inr (5, [.ref h1, .ref h2, .ref h3, .ref h4, .int a0, .int x_4, .ref h5, .int a9, .int a10, .int a11, .int a12, .int a13])), (h2, .inl (cI, 1601, .inl g1)), (h3, .inl (cI, 1601, .inl g2))]) [2, 0, 1] rfl
    have hD9 := hD.sub (ws' := [(h0, .inr (5, [.ref h1, .ref h2, .ref h3, .ref h4, .int a0, .int x_4, .ref h5, .int a9, .int a10, .int a11, .int a12, .int a13])), (h2, .inl (cI, 1601, .inl g1)), (h3, .inl (cI, 1601, .inl g2))]) [2, 0, 1] (by decide) rfl
    exact W.vret hx hb hr (fun t ht hW => ⟨⟨(), rfl, trivial, ⟨x_4, a12, a13, (rg_mono hx_4 (by decide) (by decide)), by rw [ht]; exact hP9, hD9⟩⟩, hS.F ht⟩) hS.2.2 dX5_begin_13
  · skip
    have h_5 : rg (0) (0) p0 := by have ha := hp0; have hb_ := (rg_k (x := 0) (c := 0) (by decide)); simp only [rg, fa_lt, fa_le, fa_eq, (by decide : (0 : Int32).toInt = 0)] at ha hb_ c_1; simp only [rg]; omega
    refine lv_aload_n hx hb dX5_begin_4 rfl (lv_at hl 0 rfl) ?_
    refine lv_iconst (v := 2) hx hb dX5_begin_5 (by decide) ?_
    have hPc := hP.sub (ws' := [(h0, .inr (5, [.ref h1, .ref h2, .ref h3, .ref h4, .int a0, .int a1, .ref h5, .int a9, .int a10, .int a11, .int a12, .int a13])), (h2, .inl (cI, 1601, .inl g1)), (h3, .inl (cI, 1601, .inl g2))]) [0, 1, 2] rfl
    have hDc := hD.sub (ws' := [(h0, .inr (5, [.ref h1, .ref h2, .ref h3, .ref h4, .int a0, .int a1, .ref h5, .int a9, .int a10, .int a11, .int a12, .int a13])), (h2, .inl (cI, 1601, .inl g1)), (h3, .inl (cI, 1601, .inl g2))]) [0, 1, 2] (by decide) rfl
    have hFc := va_free (wc := [(h0, .inr (5, [.ref h1, .ref h2, .ref h3, .ref h4, .int a0, .int a1, .ref h5, .int a9, .int a10, .int a11, .int a12, .int a13])), (h2, .inl (cI, 1601, .inl g1)), (h3, .inl (cI, 1601, .inl g2))]) hD hS hA [0, 1, 2] rfl
    refine va_callv (va_runV (As := [.int 2]) (rest := []) ⟨hx, hb, hml, hown, hts⟩ (c_s_X5_refuse l dC dI cB cI cJ cZ cP h0 h1 h2 g1 h3 g2 h4 a0 a1 (rg_mono ha1 (by decide) (by decide)) h5 a9 a10 a11 a12 a13 2 H.size) (cwV 1 hts (gd_V (List.mem_of_getElem? (i := 5) rfl) (List.mem_of_getElem? (i := 6) rfl) (List.mem_of_getElem? (i := 7) rfl) (List.mem_of_getElem? (i := 4) rfl) (gd_mono k_s_X5_refuse (fun _ h => List.mem_cons_of_mem _ (List.mem_append_right _ (List.mem_append_right _ (List.mem_append_left _ h)))))) rfl rfl rfl (by decide +kernel) ⟨Nat.le_of_ble_eq_true rfl, Nat.le_of_ble_eq_true rfl⟩) ⟨fun a U g mk q => by obtain ⟨q0, q1, qP, qK, qD⟩ := q; exact ⟨q0, q1, qP, va_K.moved (u := U) (U := U.calling g mk a) (Vm.Alike.refl U.vm) qK, qD⟩, va_recv hK hPc (ci := 5) (q0 := 0) rfl rfl, fun U hU hW => ⟨rfl, by rw [hU], by rw [hU]; exact hPc, va_K.moved hW.alike hK, hDc.weaken (fun _ _ _ _ => trivial)⟩⟩ rfl rfl hl.1 rfl (lv_room (Nat.le_of_ble_eq_true rfl)) dX5_begin_6 ⟨Nat.le_of_ble_eq_true rfl, Nat.le_of_ble_eq_true rfl⟩) hS (fun q _ h => hFc q h) hFc (fun u t H1 locs ht hvm hw hB hz1 hk1 hS => ?_)
    obtain ⟨x_7, x_8, hP1, hD1⟩ := hB
    rw [ht] at hP1
    obtain ⟨hP, hD⟩ := va_join (wr := []) (w1 := [(h0, .inr (5, [.ref h1, .ref h2, .ref h3, .ref h4, .int a0, .int a1, .ref h5, .int a9, .int a10, .int a11, .int x_7, .int x_8])), (h2, .inl (cI, 1601, .inl g1)), (h3, .inl (cI, 1601, .inl g2))]) hP hD [0, 1, 2] [] rfl rfl (by decide) (by decide) hk1 hFc hP1 hD1
    generalize H1 = H at hP hS ⊢
    replace hP : va_P (dC, dI) vwCl [(h0, .inr (5, [.ref h1, .ref h2, .ref h3, .ref h4, .int a0, .int a1, .ref h5, .int a9, .int a10, .int a11, .int x_7, .int x_8])), (h2, .inl (cI, 1601, .inl g1)), (h3, .inl (cI, 1601, .inl g2))] H := hP
    replace hD : va_D A [(h0, .inr (5, [.ref h1, .ref h2, .ref h3, .ref h4, .int a0, .int a1, .ref h5, .int a9, .int a10, .int a11, .int x_7, .int x_8])), (h2, .inl (cI, 1601, .inl g1)), (h3, .inl (cI, 1601, .inl g2))] := hD
    refine lv_aload_n hx hb dX5_begin_9 rfl (lv_at hl 0 rfl) ?_
    have hPc := hP.sub (ws' := [(h0, .inr (5, [.ref h1, .ref h2, .ref h3, .ref h4, .int a0, .int a1, .ref h5, .int a9, .int a10, .int a11, .int x_7, .int x_8]))]) [0] rfl
    have hDc := hD.sub (ws' := [(h0, .inr (5, [.ref h1, .ref h2, .ref h3, .ref h4, .int a0, .int a1, .ref h5, .int a9, .int a10, .int a11, .int x_7, .int x_8]))]) [0] (by decide) rfl
    have hFc := va_free (wc := [(h0, .inr (5, [.ref h1, .ref h2, .ref h3, .ref h4, .int a0, .int a1, .ref h5, .int a9, .int a10, .int a11, .int x_7, .int x_8]))]) hD hS hA [0] rfl
    refine va_callv (va_runV (As := []) (rest := []) ⟨hx, hb, hml, hown, hts⟩ (c_s_X5_step l dC dI cB cI cJ cZ cP h0 h1 h2 h3 h4 a0 (rg_mono ha0 (by decide) (by decide)) a1 (rg_mono ha1 (by decide) (by decide)) h5 a9 a10 a11 x_7 x_8 H.size) (cwV 0 hts (gd_V (List.mem_of_getElem? (i := 1) rfl) (List.mem_of_getElem? (i := 2) rfl) (List.mem_of_getElem? (i := 3) rfl) (List.mem_of_getElem? (i := 4) rfl) (gd_mono k_s_X5_step (fun _ h => List.mem_cons_of_mem _ (List.mem_append_right _ (List.mem_append_left _ h))))) rfl rfl rfl (by decide +kernel) ⟨Nat.le_of_ble_eq_true rfl, Nat.le_of_ble_eq_true rfl⟩) ⟨fun a U g mk q => by obtain ⟨q0, q1, qP, qK, qD⟩ := q; exact ⟨q0, q1, qP, va_K.moved (u := U) (U := U.calling g mk a) (Vm.Alike.refl U.vm) qK, qD⟩, va_recv hK hPc (ci := 5) (q0 := 0) rfl rfl, fun U hU hW => ⟨rfl, by rw [hU], by rw [hU]; exact hPc, va_K.moved hW.alike hK, hDc.weaken (fun _ _ _ _ => trivial)⟩⟩ rfl rfl hl.1 rfl (lv_room (Nat.le_of_ble_eq_true rfl)) dX5_begin_10 ⟨Nat.le_of_ble_eq_true rfl, Nat.le_of_ble_eq_true rfl⟩) hS (fun q _ h => hFc q h) hFc (fun u t H1 locs ht hvm hw hB hz1 hk1 hS => ?_)
    obtain ⟨x_10, hx_10, hP1, hD1⟩ := hB
    rw [ht] at hP1
    obtain ⟨hP, hD⟩ := va_join (wr := [(h2, .inl (cI, 1601, .inl g1)), (h3, .inl (cI, 1601, .inl g2))]) (w1 := [(h0, .inr (5, [.ref h1, .ref h2, .ref h3, .ref h4, .int a0, .int x_10, .ref h5, .int a9, .int a10, .int a11, .int x_7, .int x_8]))]) hP hD [0] [1, 2] rfl rfl (by decide) (by decide) hk1 hFc hP1 hD1
    generalize H1 = H at hP hS ⊢
    replace hP : va_P (dC, dI) vwCl [(h2, .inl (cI, 1601, .inl g1)), (h3, .inl (cI, 1601, .inl g2)), (h0, .inr (5, [.ref h1, .ref h2, .ref h3, .ref h4, .int a0, .int x_10, .ref h5, .int a9, .int a10, .int a11, .int x_7, .int x_8]))] H := hP
    replace hD : va_D A [(h2, .inl (cI, 1601, .inl g1)), (h3, .inl (cI, 1601, .inl g2)), (h0, .inr (5, [.ref h1, .ref h2, .ref h3, .ref h4, .int a0, .int x_10, .ref h5, .int a9, .int a10, .int a11, .int x_7, .int x_8]))] := hD
    have hP9 := hP.sub (ws' := [(h0, .inr (5, [.ref h1, .ref h2, .ref h3, .ref h4, .int a0, .int x_10, .ref h5, .int a9, .int a10, .int a11, .int x_7, .int x_8])), (h2, .inl (cI, 1601, .inl g1)), (h3, .inl (cI, 1601, .inl g2))]) [2, 0, 1] rfl
    have hD9 := hD.sub (ws' := [(h0, .inr (5, [.ref h1, .ref h2, .ref h3, .ref h4, .int a0, .int x_10, .ref h5, .int a9, .int a10, .int a11, .int x_7, .int x_8])), (h2, .inl (cI, 1601, .inl g1)), (h3, .inl (cI, 1601, .inl g2))]) [2, 0, 1] (by decide) rfl
    exact W.vret hx hb hr (fun t ht hW => ⟨⟨(), rfl, trivial, ⟨x_10, x_7, x_8, (rg_mono hx_10 (by decide) (by decide)), by rw [ht]; exact hP9, hD9⟩⟩, hS.F ht⟩) hS.2.2 dX5_begin_13
def v_s_X6_named : List Cond := Cond.code yX6_named cX6_named 4 (some .int) :: ([Cond.fieldLink RX6 35 "MayRings$Valley" "houses" "I", Cond.fieldLink RX6 9 "MayRings$Valley" "names" "[J"] ++ (wsX60 ++ ([])))
theorem k_s_X6_named : GoodIn lw_tbl v_s_X6_named := gd_c (List.mem_of_getElem? (i := 714) (by decide +kernel)) rfl (goodIn_app (gd_c (List.mem_of_getElem? (i := 224) (by decide +kernel)) rfl (gd_c (List.mem_of_getElem? (i := 210) (by decide +kernel)) rfl (gd_nil))) (goodIn_app kfX6 (gd_nil)))
set_option maxHeartbeats 2000000 in
set_option maxRecDepth 100000 in
theorem c_s_X6_named (l : Launch) (dC : Nat → ClassId) (dI : Nat → Nat → Nat) (cB cI cJ cZ cP : ClassId) (h0 : Nat) (h1 : Nat) (g0 : Nat → Int64) (h2 : Nat) (h3 : Nat) (h4 : Nat) (h5 : Nat) (h6 : Nat) (a3 : Int32) (ha3 : rg (0) (9) a3) (a4 : Int32) (a5 : Int32) (a6 : Int32) (y0 : Int64) (sz : Nat) : Met l yX6_named v_s_X6_named ({ frames := 0, cells := 0, slots := 0, locals := 0 }) (va_Pc [.ref h0, .long y0] (fun U => U.heap.size = sz ∧ va_P (dC, dI) vwCl [(h0, .inr (6, [.ref h1, .ref h2, .ref h3, .ref h4, .ref h5, .ref h6, .int a3, .int a4, .int a5, .int a6])), (h1, .inl (cJ, 9, .inr (.inl g0)))] U.heap ∧ va_K (dC, dI) vwCl (ty5 cB cI cJ cZ cP) U ∧ va_D (fun _ => True) [(h0, .inr (6, [.ref h1, .ref h2, .ref h3, .ref h4, .ref h5, .ref h6, .int a3, .int a4, .int a5, .int a6])), (h1, .inl (cJ, 9, .inr (.inl g0)))])) (va_Qi (fun (r : Int32) (u9 : Unit) => rg (-1) (8) r) (fun u9 t => va_P (dC, dI) vwCl [(h0, .inr (6, [.ref h1, .ref h2, .ref h3, .ref h4, .ref h5, .ref h6, .int a3, .int a4, .int a5, .int a6])), (h1, .inl (cJ, 9, .inr (.inl g0)))] t.heap ∧ va_D (va_A [(h0, .inr (6, [.ref h1, .ref h2, .ref h3, .ref h4, .ref h5, .ref h6, .int a3, .int a4, .int a5, .int a6])), (h1, .inl (cJ, 9, .inr (.inl g0)))] sz) [(h0, .inr (6, [.ref h1, .ref h2, .ref h3, .ref h4, .ref h5, .ref h6, .int a3, .int a4, .int a5, .int a6])), (h1, .inl (cJ, 9, .inr (.inl g0)))]) (va_A [(h0, .inr (6, [.ref h1, .ref h2, .ref h3, .ref h4, .ref h5, .ref h6, .int a3, .int a4, .int a5, .int a6])), (h1, .inl (cJ, 9, .inr (.inl g0)))] sz)) 0 0 (va_A [(h0, .inr (6, [.ref h1, .ref h2, .ref h3, .ref h4, .ref h5, .ref h6, .int a3, .int a4, .int a5, .int a6])), (h1, .inl (cJ, 9, .inr (.inl g0)))] sz) := by
  refine Met.ofW (cc := cX6_named) (maxL := 4) (ret := (some .int)) (by decide) rfl ?_
  intro p e s m args below meth c s₁ B hml hv
  obtain ⟨rfl, hsz, hP, hK, hD0⟩ := hv
  have hx := B.exec
  have hb := B.bytes
  have hr := B.returns
  have hts := atoms_spec (ws := v_s_X6_named) B.pre
  have hown : s.vm.findClass RX6 = some m.cls := findClass_of_methodNamed B.named
  have hlocks := B.notSynchronized
  have hinX6 : ∀ w ∈ wsX60, w ∈ v_s_X6_named := fun _ h => List.mem_cons_of_mem _ (List.mem_append_right _ (List.mem_append_left _ h))
  subst hsz
  have hD := hD0.self (sz := s.heap.size)
  generalize hAe : va_A [(h0, .inr (6, [.ref h1, .ref h2, .ref h3, .ref h4, .ref h5, .ref h6, .int a3, .int a4, .int a5, .int a6])), (h1, .inl (cJ, 9, .inr (.inl g0)))] s.heap.size = A at hD ⊢
  have hA : ∀ q : Nat, s.heap.size ≤ q → A q := fun q h => by rw [← hAe]; exact Or.inr h
  have hP : va_P (dC, dI) vwCl [(h0, .inr (6, [.ref h1, .ref h2, .ref h3, .ref h4, .ref h5, .ref h6, .int a3, .int a4, .int a5, .int a6])), (h1, .inl (cJ, 9, .inr (.inl g0)))] s.heap := hP
  have hl := lv_entry ([.ref h0, .long y0]) (n := 4) (Nat.le_of_ble_eq_true rfl)
  rw [lg_entry_eq]
  generalize (lg_sl ([.ref h0, .long y0]) ++ List.replicate (4 - (lg_sl ([.ref h0, .long y0])).length) Slot.unset).toArray = ls at hl ⊢
  have hl : lv_has ls 4 [(0, .ref h0), (1, .long y0)] := hl
  refine W_gen (A := A) hP (fun H locs hP hS => ?_)
  refine lv_iconst (v := 0) hx hb dX6_named_0 (by decide) ?_
  refine lv_istore_n (lv' := [(3, .int 0), (0, .ref h0), (1, .long y0)]) hx hb dX6_named_1 rfl hl (by decide) rfl (fun ls hl => ?_)
  refine W_loopM (σ := Int32) (fun u H locs ls => va_P (dC, dI) vwCl [(h0, .inr (6, [.ref h1, .ref h2, .ref h3, .ref h4, .ref h5, .ref h6, .int a3, .int a4, .int a5, .int a6])), (h1, .inl (cJ, 9, .inr (.inl g0)))] H ∧ va_D A [(h0, .inr (6, [.ref h1, .ref h2, .ref h3, .ref h4, .ref h5, .ref h6, .int a3, .int a4, .int a5, .int a6])), (h1, .inl (cJ, 9, .inr (.inl g0)))] ∧ va_S A s.heap H locs ∧ lv_has ls 4 [(3, .int u), (0, .ref h0), (1, .long y0)] ∧ rg (0) (9) u) (fun u => ((9) - u.toInt).toNat) 2 [] ?_ (0) H locs ls ⟨hP, hD, hS, hl, (rg_mono (rg_k (x := 0) (c := 0) (by decide)) (by decide) (by decide))⟩
  rintro x_80 H locs ls ⟨hP, hD, hS, hl, hx_80⟩ ih_90
  replace hP : va_P (dC, dI) vwCl [(h0, .inr (6, [.ref h1, .ref h2, .ref h3, .ref h4, .ref h5, .ref h6, .int a3, .int a4, .int a5, .int a6])), (h1, .inl (cJ, 9, .inr (.inl g0)))] H := hP
  replace hD : va_D A [(h0, .inr (6, [.ref h1, .ref h2, .ref h3, .ref h4, .ref h5, .ref h6, .int a3, .int a4, .int a5, .int a6])), (h1, .inl (cJ, 9, .inr (.inl g0)))] := hD
  replace hl : lv_has ls 4 [(3, .int x_80), (0, .ref h0), (1, .long y0)] := hl
  replace hx_80 : rg (0) (9) x_80 := hx_80
  refine lv_iload_n hx hb dX6_named_2 rfl (lv_at hl 0 rfl) ?_
  refine lv_aload_n hx hb dX6_named_3 rfl (lv_at hl 1 rfl) ?_
  refine va_get (D := (dC, dI)) (ci := 6) (v := .int a3) (C := RX6) (T := TX6) (N := 10) hx hb hts hinX6 hown hK hP 0 rfl rfl 6 (by decide) (hts (.fieldLink RX6 35 "MayRings$Valley" "houses" "I") (List.mem_of_getElem? (i := 1) rfl)) (fun _ h9 => h9) rfl dX6_named_4 ?_
  refine lv_icmp_ge (tgt := 29) hx hb dX6_named_7 (by decide) (fun c_91 => ?_) (fun c_91 => ?_)
  · skip
    refine lv_iconst (v := (-1)) hx hb dX6_named_29 (by decide) ?_
    have hP9 := hP.sub (ws' := [(h0, .inr (6, [.ref h1, .ref h2, .ref h3, .ref h4, .ref h5, .ref h6, .int a3, .int a4, .int a5, .int a6])), (h1, .inl (cJ, 9, .inr (.inl g0)))]) [0, 1] rfl
    have hD9 := hD.sub (ws' := [(h0, .inr (6, [.ref h1, .ref h2, .ref h3, .ref h4, .ref h5, .ref h6, .int a3, .int a4, .int a5, .int a6])), (h1, .inl (cJ, 9, .inr (.inl g0)))]) [0, 1] (by decide) rfl
    exact W.iret (v := (-1)) hx hb hr (fun t ht hW => ⟨⟨(-1), (), rfl, (rg_mono (rg_k (x := (-1)) (c := -1) (by decide)) (by decide) (by decide)), ⟨by rw [ht]; exact hP9, hD9⟩⟩, hS.F ht⟩) hS.2.2 dX6_named_30
  · skip
    have h_92 : rg (0) (8) x_80 := by have ha := hx_80; have hb_ := ha3; simp only [rg, fa_lt, fa_le, fa_eq] at ha hb_ c_91; simp only [rg]; omega
    have h_93 : rg (1) (9) a3 := by have ha := h_92; have hb_ := ha3; have hc_ := c_91; simp only [rg, fa_lt, fa_le, fa_eq] at ha hb_ hc_; simp only [rg]; omega
    have h_94 : rg (1) (9) a3 := by have ha := hx_80; have hb_ := ha3; simp only [rg, fa_lt, fa_le, fa_eq] at ha hb_ c_91; simp only [rg]; omega
    refine lv_aload_n hx hb dX6_named_10 rfl (lv_at hl 1 rfl) ?_
    refine va_get (D := (dC, dI)) (ci := 6) (v := .ref h1) (C := RX6) (T := TX6) (N := 10) hx hb hts hinX6 hown hK hP 0 rfl rfl 0 (by decide) (hts (.fieldLink RX6 9 "MayRings$Valley" "names" "[J") (List.mem_of_getElem? (i := 2) rfl)) (fun _ h9 => h9) rfl dX6_named_11 ?_
    refine lv_iload_n hx hb dX6_named_14 rfl (lv_at hl 0 rfl) ?_
    refine va_lald hx hb hK hP 1 2 rfl rfl (rg_in (n := 9) (rg_mono h_92 (by decide) (by decide))) dX6_named_15 ?_
    refine lv_topl (fun y_95 ey_95 => ?_)
    clear ey_95
    refine lv_lload_n hx hb dX6_named_16 rfl (lv_at hl 2 rfl) ?_
    refine W.lcmp hx hb dX6_named_17 ?_
    refine lv_topi (fun x_96 ex_96 => ?_)
    refine lv_if_ne (tgt := 23) hx hb dX6_named_18 (by decide) (fun c_97 => ?_) (fun c_97 => ?_)
    · skip
      obtain ⟨x_98, ex_98⟩ : ∃ y : Int32, y = x_80 + Int32.ofInt (1) := ⟨_, rfl⟩
      have hx_98 : rg (1) (9) x_98 := by rw [ex_98]; exact rg_mono (rg_add h_92 (rg_k (x := Int32.ofInt (1)) (c := 1) (by decide)) (by decide) (by decide)) (by decide) (by decide)
      have qx_98 : x_98.toInt = x_80.toInt + (1) := by rw [ex_98]; exact rg_addE h_92 (rg_k (x := Int32.ofInt (1)) (c := 1) (by decide)) (by decide) (by decide) (by decide)
      refine lv_iinc (v := x_98) (lv' := [(3, .int x_98), (0, .ref h0), (1, .long y0)]) hx hb dX6_named_23 hl (k := 0) rfl (ex_98.symm) (by decide) rfl (fun ls hl => ?_)
      clear ex_98
      refine lv_goto (tgt := 2) hx hb dX6_named_26 (by decide) ?_
      exact ih_90 (x_98) H locs ls ⟨hP.sub (ws' := [(h0, .inr (6, [.ref h1, .ref h2, .ref h3, .ref h4, .ref h5, .ref h6, .int a3, .int a4, .int a5, .int a6])), (h1, .inl (cJ, 9, .inr (.inl g0)))]) [0, 1] rfl, hD.sub (ws' := [(h0, .inr (6, [.ref h1, .ref h2, .ref h3, .ref h4, .ref h5, .ref h6, .int a3, .int a4, .int a5, .int a6])), (h1, .inl (cJ, 9, .inr (.inl g0)))]) [0, 1] (by decide) rfl, hS, lv_sub hl [0, 1, 2] rfl, (rg_mono hx_98 (by decide) (by decide))⟩ (by show ((9) - x_98.toInt).toNat < ((9) - x_80.toInt).toNat; have ha := h_92; simp only [rg] at ha; omega)
    · skip
      have h_99 : rg (0) (0) x_96 := by have ha := (rg_any x_96); have hb_ := (rg_k (x := 0) (c := 0) (by decide)); simp only [rg, fa_lt, fa_le, fa_eq, (by decide : (0 : Int32).toInt = 0)] at ha hb_ c_97; simp only [rg]; omega
      refine lv_iload_n hx hb dX6_named_21 rfl (lv_at hl 0 rfl) ?_
      have hP9 := hP.sub (ws' := [(h0, .inr (6, [.ref h1, .ref h2, .ref h3, .ref h4, .ref h5, .ref h6, .int a3, .int a4, .int a5, .int a6])), (h1, .inl (cJ, 9, .inr (.inl g0)))]) [0, 1] rfl
      have hD9 := hD.sub (ws' := [(h0, .inr (6, [.ref h1, .ref h2, .ref h3, .ref h4, .ref h5, .ref h6, .int a3, .int a4, .int a5, .int a6])), (h1, .inl (cJ, 9, .inr (.inl g0)))]) [0, 1] (by decide) rfl
      exact W.iret (v := x_80) hx hb hr (fun t ht hW => ⟨⟨x_80, (), rfl, (rg_mono h_92 (by decide) (by decide)), ⟨by rw [ht]; exact hP9, hD9⟩⟩, hS.F ht⟩) hS.2.2 dX6_named_22
def v_s_X5_expect : List Cond := Cond.code yX5_expect cX5_expect 2 none :: ([Cond.fieldLink RX5 15 "MayRings$Reader" "kinds" "[I", Cond.fieldLink RX5 29 "MayRings$Reader" "here" "I", Cond.methodLink RX5 122 yX5_step, Cond.instanceMethod yX5_step, Cond.selects RX5 yX5_step yX5_step, Cond.initialized RX5, Cond.methodLink RX5 118 yX5_refuse, Cond.instanceMethod yX5_refuse, Cond.selects RX5 yX5_refuse yX5_refuse] ++ (wsX50 ++ (v_s_X5_step ++ (v_s_X5_refuse ++ ([])))))
theorem k_s_X5_expect : GoodIn lw_tbl v_s_X5_expect := gd_c (List.mem_of_getElem? (i := 718) (by decide +kernel)) rfl (goodIn_app (gd_c (List.mem_of_getElem? (i := 308) (by decide +kernel)) rfl (gd_c (List.mem_of_getElem? (i := 312) (by decide +kernel)) rfl (gd_c (List.mem_of_getElem? (i := 703) (by decide +kernel)) rfl (gd_c (List.mem_of_getElem? (i := 705) (by decide +kernel)) rfl (gd_c (List.mem_of_getElem? (i := 11) (by decide +kernel)) rfl (gd_c (List.mem_of_getElem? (i := 131) (by decide +kernel)) rfl (gd_c (List.mem_of_getElem? (i := 699) (by decide +kernel)) rfl (gd_c (List.mem_of_getElem? (i := 701) (by decide +kernel)) rfl (gd_c (List.mem_of_getElem? (i := 10) (by decide +kernel)) rfl (gd_nil)))))))))) (goodIn_app kfX5 (goodIn_app k_s_X5_step (goodIn_app k_s_X5_refuse (gd_nil)))))
set_option maxHeartbeats 2000000 in
set_option maxRecDepth 100000 in
theorem c_s_X5_expect (l : Launch) (dC : Nat → ClassId) (dI : Nat → Nat → Nat) (cB cI cJ cZ cP : ClassId) (h0 : Nat) (h1 : Nat) (h2 : Nat) (g1 : Nat → Int32) (h3 : Nat) (g2 : Nat → Int32) (h4 : Nat) (a0 : Int32) (ha0 : rg (0) (1601) a0) (a1 : Int32) (ha1 : rg (0) (1600) a1) (h5 : Nat) (a9 : Int32) (a10 : Int32) (a11 : Int32) (a12 : Int32) (a13 : Int32) (p0 : Int32) (sz : Nat) : Met l yX5_expect v_s_X5_expect ({ frames := 1, cells := 0, slots := 0, locals := 21 }) (va_Pc [.ref h0, .int p0] (fun U => U.heap.size = sz ∧ va_P (dC, dI) vwCl [(h0, .inr (5, [.ref h1, .ref h2, .ref h3, .ref h4, .int a0, .int a1, .ref h5, .int a9, .int a10, .int a11, .int a12, .int a13])), (h2, .inl (cI, 1601, .inl g1)), (h3, .inl (cI, 1601, .inl g2))] U.heap ∧ va_K (dC, dI) vwCl (ty5 cB cI cJ cZ cP) U ∧ va_D (fun _ => True) [(h0, .inr (5, [.ref h1, .ref h2, .ref h3, .ref h4, .int a0, .int a1, .ref h5, .int a9, .int a10, .int a11, .int a12, .int a13])), (h2, .inl (cI, 1601, .inl g1)), (h3, .inl (cI, 1601, .inl g2))])) (va_Qv (fun _ : Unit => True) (fun _ t => ∃ (z0 : Int32) (z1 : Int32) (z2 : Int32), rg (0) (1600) z0 ∧ va_P (dC, dI) vwCl [(h0, .inr (5, [.ref h1, .ref h2, .ref h3, .ref h4, .int a0, .int z0, .ref h5, .int a9, .int a10, .int a11, .int z1, .int z2])), (h2, .inl (cI, 1601, .inl g1)), (h3, .inl (cI, 1601, .inl g2))] t.heap ∧ va_D (va_A [(h0, .inr (5, [.ref h1, .ref h2, .ref h3, .ref h4, .int a0, .int a1, .ref h5, .int a9, .int a10, .int a11, .int a12, .int a13])), (h2, .inl (cI, 1601, .inl g1)), (h3, .inl (cI, 1601, .inl g2))] sz) [(h0, .inr (5, [.ref h1, .ref h2, .ref h3, .ref h4, .int a0, .int z0, .ref h5, .int a9, .int a10, .int a11, .int z1, .int z2])), (h2, .inl (cI, 1601, .inl g1)), (h3, .inl (cI, 1601, .inl g2))]) (va_A [(h0, .inr (5, [.ref h1, .ref h2, .ref h3, .ref h4, .int a0, .int a1, .ref h5, .int a9, .int a10, .int a11, .int a12, .int a13])), (h2, .inl (cI, 1601, .inl g1)), (h3, .inl (cI, 1601, .inl g2))] sz)) 0 0 (va_A [(h0, .inr (5, [.ref h1, .ref h2, .ref h3, .ref h4, .int a0, .int a1, .ref h5, .int a9, .int a10, .int a11, .int a12, .int a13])), (h2, .inl (cI, 1601, .inl g1)), (h3, .inl (cI, 1601, .inl g2))] sz) := by
  refine Met.ofW (cc := cX5_expect) (maxL := 2) (ret := none) (by decide) rfl ?_
  intro p e s m args below meth c s₁ B hml hv
  obtain ⟨rfl, hsz, hP, hK, hD0⟩ := hv
  have hx := B.exec
  have hb := B.bytes
  have hr := B.returns
  have hts := atoms_spec (ws := v_s_X5_expect) B.pre
  have hown : s.vm.findClass RX5 = some m.cls := findClass_of_methodNamed B.named
  have hlocks := B.notSynchronized
  have hinX5 : ∀ w ∈ wsX50, w ∈ v_s_X5_expect := fun _ h => List.mem_cons_of_mem _ (List.mem_append_right _ (List.mem_append_left _ h))
  subst hsz
  have hD := hD0.self (sz := s.heap.size)
  generalize hAe : va_A [(h0, .inr (5, [.ref h1, .ref h2, .ref h3, .ref h4, .int a0, .int a1, .ref h5, .int a9, .int a10, .int a11, .int a12, .int a13])), (h2, .inl (cI, 1601, .inl g1)), (h3, .inl (cI, 1601, .inl g2))] s.heap.size = A at hD ⊢
  have hA : ∀ q : Nat, s.heap.size ≤ q → A q := fun q h => by rw [← hAe]; exact Or.inr h
  have hP : va_P (dC, dI) vwCl [(h0, .inr (5, [.ref h1, .ref h2, .ref h3, .ref h4, .int a0, .int a1, .ref h5, .int a9, .int a10, .int a11, .int a12, .int a13])), (h2, .inl (cI, 1601, .inl g1)), (h3, .inl (cI, 1601, .inl g2))] s.heap := hP
  have hl := lv_entry ([.ref h0, .int p0]) (n := 2) (Nat.le_of_ble_eq_true rfl)
  rw [lg_entry_eq]
  generalize (lg_sl ([.ref h0, .int p0]) ++ List.replicate (2 - (lg_sl ([.ref h0, .int p0])).length) Slot.unset).toArray = ls at hl ⊢
  have hl : lv_has ls 2 [(0, .ref h0), (1, .int p0)] := hl
  refine W_gen (A := A) hP (fun H locs hP hS => ?_)
  refine lv_aload_n hx hb dX5_expect_0 rfl (lv_at hl 0 rfl) ?_
  refine va_get (D := (dC, dI)) (ci := 5) (v := .ref h2) (C := RX5) (T := TX5) (N := 12) hx hb hts hinX5 hown hK hP 0 rfl rfl 1 (by decide) (hts (.fieldLink RX5 15 "MayRings$Reader" "kinds" "[I") (List.mem_of_getElem? (i := 1) rfl)) (fun _ h9 => h9) rfl dX5_expect_1 ?_
  refine lv_aload_n hx hb dX5_expect_4 rfl (lv_at hl 0 rfl) ?_
  refine va_get (D := (dC, dI)) (ci := 5) (v := .int a1) (C := RX5) (T := TX5) (N := 12) hx hb hts hinX5 hown hK hP 0 rfl rfl 5 (by decide) (hts (.fieldLink RX5 29 "MayRings$Reader" "here" "I") (List.mem_of_getElem? (i := 2) rfl)) (fun _ h9 => h9) rfl dX5_expect_5 ?_
  refine va_iald hx hb hK hP 1 1 rfl rfl (rg_in (n := 1601) (rg_mono ha1 (by decide) (by decide))) dX5_expect_8 ?_
  refine lv_topi (fun x_1 ex_1 => ?_)
  refine lv_iload_n hx hb dX5_expect_9 rfl (lv_at hl 1 rfl) ?_
  refine lv_icmp_eq (tgt := 18) hx hb dX5_expect_10 (by decide) (fun c_2 => ?_) (fun c_2 => ?_)
  · skip
    refine lv_aload_n hx hb dX5_expect_18 rfl (lv_at hl 0 rfl) ?_
    have hPc := hP.sub (ws' := [(h0, .inr (5, [.ref h1, .ref h2, .ref h3, .ref h4, .int a0, .int a1, .ref h5, .int a9, .int a10, .int a11, .int a12, .int a13]))]) [0] rfl
    have hDc := hD.sub (ws' := [(h0, .inr (5, [.ref h1, .ref h2, .ref h3, .ref h4, .int a0, .int a1, .ref h5, .int a9, .int a10, .int a11, .int a12, .int a13]))]) [0] (by decide) rfl
    have hFc := va_free (wc := [(h0, .inr (5, [.ref h1, .ref h2, .ref h3, .ref h4, .int a0, .int a1, .ref h5, .int a9, .int a10, .int a11, .int a12, .int a13]))]) hD hS hA [0] rfl
    refine va_callv (va_runV (As := []) (rest := []) ⟨hx, hb, hml, hown, hts⟩ (c_s_X5_step l dC dI cB cI cJ cZ cP h0 h1 h2 h3 h4 a0 (rg_mono ha0 (by decide) (by decide)) a1 (rg_mono ha1 (by decide) (by decide)) h5 a9 a10 a11 a12 a13 H.size) (cwV 0 hts (gd_V (List.mem_of_getElem? (i := 3) rfl) (List.mem_of_getElem? (i := 4) rfl) (List.mem_of_getElem? (i := 5) rfl) (List.mem_of_getElem? (i := 6) rfl) (gd_mono k_s_X5_step (fun _ h => List.mem_cons_of_mem _ (List.mem_append_right _ (List.mem_append_right _ (List.mem_append_left _ h)))))) rfl rfl rfl (by decide +kernel) ⟨Nat.le_of_ble_eq_true rfl, Nat.le_of_ble_eq_true rfl⟩) ⟨fun a U g mk q => by obtain ⟨q0, q1, qP, qK, qD⟩ := q; exact ⟨q0, q1, qP, va_K.moved (u := U) (U := U.calling g mk a) (Vm.Alike.refl U.vm) qK, qD⟩, va_recv hK hPc (ci := 5) (q0 := 0) rfl rfl, fun U hU hW => ⟨rfl, by rw [hU], by rw [hU]; exact hPc, va_K.moved hW.alike hK, hDc.weaken (fun _ _ _ _ => trivial)⟩⟩ rfl rfl hl.1 rfl (lv_room (Nat.le_of_ble_eq_true rfl)) dX5_expect_19 ⟨Nat.le_of_ble_eq_true rfl, Nat.le_of_ble_eq_true rfl⟩) hS (fun q _ h => hFc q h) hFc (fun u t H1 locs ht hvm hw hB hz1 hk1 hS => ?_)
    obtain ⟨x_4, hx_4, hP1, hD1⟩ := hB
    rw [ht] at hP1
    obtain ⟨hP, hD⟩ := va_join (wr := [(h2, .inl (cI, 1601, .inl g1)), (h3, .inl (cI, 1601, .inl g2))]) (w1 := [(h0, .inr (5, [.ref h1, .ref h2, .ref h3, .ref h4, .int a0, .int x_4, .ref h5, .int a9, .int a10, .int a11, .int a12, .int a13]))]) hP hD [0] [1, 2] rfl rfl (by decide) (by decide) hk1 hFc hP1 hD1
    generalize H1 = H at hP hS ⊢
    replace hP : va_P (dC, dI) vwCl [(h2, .inl (cI, 1601, .inl g1)), (h3, .inl (cI, 1601, .inl g2)), (h0, .inr (5, [.ref h1, .ref h2, .ref h3, .ref h4, .int a0, .int x_4, .ref h5, .int a9, .int a10, .int a11, .int a12, .int a13]))] H := hP
    replace hD : va_D A [(h2, .inl (cI, 1601, .inl g1)), (h3, .inl (cI, 1601, .inl g2)), (h0, .inr (5, [.ref h1, .ref h2, .ref h3, .ref h4, .int a0, .int x_4, .ref h5, .int a9, .int a10, .int a11, .int a12, .int a13]))] := hD
    have hP9 := hP.sub (ws' := [(h0, .inr (5, [.ref h1, .ref h2, .ref h3, .ref h4, .int a0, .int x_4, .ref h5, .int a9, .int a10, .int a11, .int a12, .int a13])), (h2, .inl (cI, 1601, .inl g1)), (h3, .inl (cI, 1601, .inl g2))]) [2, 0, 1] rfl
    have hD9 := hD.sub (ws' := [(h0, .inr (5, [.ref h1, .ref h2, .ref h3, .ref h4, .int a0, .int x_4, .ref h5, .int a9, .int a10, .int a11, .int a12, .int a13])), (h2, .inl (cI, 1601, .inl g1)), (h3, .inl (cI, 1601, .inl g2))]) [2, 0, 1] (by decide) rfl
    exact W.vret hx hb hr (fun t ht hW => ⟨⟨(), rfl, trivial, ⟨x_4, a12, a13, (rg_mono hx_4 (by decide) (by decide)), by rw [ht]; exact hP9, hD9⟩⟩, hS.F ht⟩) hS.2.2 dX5_expect_22
  · skip
    refine lv_aload_n hx hb dX5_expect_13 rfl (lv_at hl 0 rfl) ?_
    refine lv_iconst (v := 2) hx hb dX5_expect_14 (by decide) ?_
    have hPc := hP.sub (ws' := [(h0, .inr (5, [.ref h1, .ref h2, .ref h3, .ref h4, .int a0, .int a1, .ref h5, .int a9, .int a10, .int a11, .int a12, .int a13])), (h2, .inl (cI, 1601, .inl g1)), (h3, .inl (cI, 1601, .inl g2))]) [0, 1, 2] rfl
    have hDc := hD.sub (ws' := [(h0, .inr (5, [.ref h1, .ref h2, .ref h3, .ref h4, .int a0, .int a1, .ref h5, .int a9, .int a10, .int a11, .int a12, .int a13])), (h2, .inl (cI, 1601, .inl g1)), (h3, .inl (cI, 1601, .inl g2))]) [0, 1, 2] (by decide) rfl
    have hFc := va_free (wc := [(h0, .inr (5, [.ref h1, .ref h2, .ref h3, .ref h4, .int a0, .int a1, .ref h5, .int a9, .int a10, .int a11, .int a12, .int a13])), (h2, .inl (cI, 1601, .inl g1)), (h3, .inl (cI, 1601, .inl g2))]) hD hS hA [0, 1, 2] rfl
    refine va_callv (va_runV (As := [.int 2]) (rest := []) ⟨hx, hb, hml, hown, hts⟩ (c_s_X5_refuse l dC dI cB cI cJ cZ cP h0 h1 h2 g1 h3 g2 h4 a0 a1 (rg_mono ha1 (by decide) (by decide)) h5 a9 a10 a11 a12 a13 2 H.size) (cwV 1 hts (gd_V (List.mem_of_getElem? (i := 7) rfl) (List.mem_of_getElem? (i := 8) rfl) (List.mem_of_getElem? (i := 9) rfl) (List.mem_of_getElem? (i := 6) rfl) (gd_mono k_s_X5_refuse (fun _ h => List.mem_cons_of_mem _ (List.mem_append_right _ (List.mem_append_right _ (List.mem_append_right _ (List.mem_append_left _ h))))))) rfl rfl rfl (by decide +kernel) ⟨Nat.le_of_ble_eq_true rfl, Nat.le_of_ble_eq_true rfl⟩) ⟨fun a U g mk q => by obtain ⟨q0, q1, qP, qK, qD⟩ := q; exact ⟨q0, q1, qP, va_K.moved (u := U) (U := U.calling g mk a) (Vm.Alike.refl U.vm) qK, qD⟩, va_recv hK hPc (ci := 5) (q0 := 0) rfl rfl, fun U hU hW => ⟨rfl, by rw [hU], by rw [hU]; exact hPc, va_K.moved hW.alike hK, hDc.weaken (fun _ _ _ _ => trivial)⟩⟩ rfl rfl hl.1 rfl (lv_room (Nat.le_of_ble_eq_true rfl)) dX5_expect_15 ⟨Nat.le_of_ble_eq_true rfl, Nat.le_of_ble_eq_true rfl⟩) hS (fun q _ h => hFc q h) hFc (fun u t H1 locs ht hvm hw hB hz1 hk1 hS => ?_)
    obtain ⟨x_6, x_7, hP1, hD1⟩ := hB
    rw [ht] at hP1
    obtain ⟨hP, hD⟩ := va_join (wr := []) (w1 := [(h0, .inr (5, [.ref h1, .ref h2, .ref h3, .ref h4, .int a0, .int a1, .ref h5, .int a9, .int a10, .int a11, .int x_6, .int x_7])), (h2, .inl (cI, 1601, .inl g1)), (h3, .inl (cI, 1601, .inl g2))]) hP hD [0, 1, 2] [] rfl rfl (by decide) (by decide) hk1 hFc hP1 hD1
    generalize H1 = H at hP hS ⊢
    replace hP : va_P (dC, dI) vwCl [(h0, .inr (5, [.ref h1, .ref h2, .ref h3, .ref h4, .int a0, .int a1, .ref h5, .int a9, .int a10, .int a11, .int x_6, .int x_7])), (h2, .inl (cI, 1601, .inl g1)), (h3, .inl (cI, 1601, .inl g2))] H := hP
    replace hD : va_D A [(h0, .inr (5, [.ref h1, .ref h2, .ref h3, .ref h4, .int a0, .int a1, .ref h5, .int a9, .int a10, .int a11, .int x_6, .int x_7])), (h2, .inl (cI, 1601, .inl g1)), (h3, .inl (cI, 1601, .inl g2))] := hD
    refine lv_aload_n hx hb dX5_expect_18 rfl (lv_at hl 0 rfl) ?_
    have hPc := hP.sub (ws' := [(h0, .inr (5, [.ref h1, .ref h2, .ref h3, .ref h4, .int a0, .int a1, .ref h5, .int a9, .int a10, .int a11, .int x_6, .int x_7]))]) [0] rfl
    have hDc := hD.sub (ws' := [(h0, .inr (5, [.ref h1, .ref h2, .ref h3, .ref h4, .int a0, .int a1, .ref h5, .int a9, .int a10, .int a11, .int x_6, .int x_7]))]) [0] (by decide) rfl
    have hFc := va_free (wc := [(h0, .inr (5, [.ref h1, .ref h2, .ref h3, .ref h4, .int a0, .int a1, .ref h5, .int a9, .int a10, .int a11, .int x_6, .int x_7]))]) hD hS hA [0] rfl
    refine va_callv (va_runV (As := []) (rest := []) ⟨hx, hb, hml, hown, hts⟩ (c_s_X5_step l dC dI cB cI cJ cZ cP h0 h1 h2 h3 h4 a0 (rg_mono ha0 (by decide) (by decide)) a1 (rg_mono ha1 (by decide) (by decide)) h5 a9 a10 a11 x_6 x_7 H.size) (cwV 0 hts (gd_V (List.mem_of_getElem? (i := 3) rfl) (List.mem_of_getElem? (i := 4) rfl) (List.mem_of_getElem? (i := 5) rfl) (List.mem_of_getElem? (i := 6) rfl) (gd_mono k_s_X5_step (fun _ h => List.mem_cons_of_mem _ (List.mem_append_right _ (List.mem_append_right _ (List.mem_append_left _ h)))))) rfl rfl rfl (by decide +kernel) ⟨Nat.le_of_ble_eq_true rfl, Nat.le_of_ble_eq_true rfl⟩) ⟨fun a U g mk q => by obtain ⟨q0, q1, qP, qK, qD⟩ := q; exact ⟨q0, q1, qP, va_K.moved (u := U) (U := U.calling g mk a) (Vm.Alike.refl U.vm) qK, qD⟩, va_recv hK hPc (ci := 5) (q0 := 0) rfl rfl, fun U hU hW => ⟨rfl, by rw [hU], by rw [hU]; exact hPc, va_K.moved hW.alike hK, hDc.weaken (fun _ _ _ _ => trivial)⟩⟩ rfl rfl hl.1 rfl (lv_room (Nat.le_of_ble_eq_true rfl)) dX5_expect_19 ⟨Nat.le_of_ble_eq_true rfl, Nat.le_of_ble_eq_true rfl⟩) hS (fun q _ h => hFc q h) hFc (fun u t H1 locs ht hvm hw hB hz1 hk1 hS => ?_)
    obtain ⟨x_9, hx_9, hP1, hD1⟩ := hB
    rw [ht] at hP1
    obtain ⟨hP, hD⟩ := va_join (wr := [(h2, .inl (cI, 1601, .inl g1)), (h3, .inl (cI, 1601, .inl g2))]) (w1 := [(h0, .inr (5, [.ref h1, .ref h2, .ref h3, .ref h4, .int a0, .int x_9, .ref h5, .int a9, .int a10, .int a11, .int x_6, .int x_7]))]) hP hD [0] [1, 2] rfl rfl (by decide) (by decide) hk1 hFc hP1 hD1
    generalize H1 = H at hP hS ⊢
    replace hP : va_P (dC, dI) vwCl [(h2, .inl (cI, 1601, .inl g1)), (h3, .inl (cI, 1601, .inl g2)), (h0, .inr (5, [.ref h1, .ref h2, .ref h3, .ref h4, .int a0, .int x_9, .ref h5, .int a9, .int a10, .int a11, .int x_6, .int x_7]))] H := hP
    replace hD : va_D A [(h2, .inl (cI, 1601, .inl g1)), (h3, .inl (cI, 1601, .inl g2)), (h0, .inr (5, [.ref h1, .ref h2, .ref h3, .ref h4, .int a0, .int x_9, .ref h5, .int a9, .int a10, .int a11, .int x_6, .int x_7]))] := hD
    have hP9 := hP.sub (ws' := [(h0, .inr (5, [.ref h1, .ref h2, .ref h3, .ref h4, .int a0, .int x_9, .ref h5, .int a9, .int a10, .int a11, .int x_6, .int x_7])), (h2, .inl (cI, 1601, .inl g1)), (h3, .inl (cI, 1601, .inl g2))]) [2, 0, 1] rfl
    have hD9 := hD.sub (ws' := [(h0, .inr (5, [.ref h1, .ref h2, .ref h3, .ref h4, .int a0, .int x_9, .ref h5, .int a9, .int a10, .int a11, .int x_6, .int x_7])), (h2, .inl (cI, 1601, .inl g1)), (h3, .inl (cI, 1601, .inl g2))]) [2, 0, 1] (by decide) rfl
    exact W.vret hx hb hr (fun t ht hW => ⟨⟨(), rfl, trivial, ⟨x_9, x_6, x_7, (rg_mono hx_9 (by decide) (by decide)), by rw [ht]; exact hP9, hD9⟩⟩, hS.F ht⟩) hS.2.2 dX5_expect_22
def v_s_X5_readNumber : List Cond := Cond.code yX5_readNumber cX5_readNumber 4 (some .int) :: ([Cond.fieldLink RX5 22 "MayRings$Reader" "values" "[J", Cond.fieldLink RX5 29 "MayRings$Reader" "here" "I", Cond.fieldLink RX5 15 "MayRings$Reader" "kinds" "[I", Cond.methodLink RX5 118 yX5_refuse, Cond.instanceMethod yX5_refuse, Cond.selects RX5 yX5_refuse yX5_refuse, Cond.initialized RX5, Cond.methodLink RX5 122 yX5_step, Cond.instanceMethod yX5_step, Cond.selects RX5 yX5_step yX5_step] ++ (wsX50 ++ (v_s_X5_refuse ++ (v_s_X5_step ++ ([])))))
theorem k_s_X5_readNumber : GoodIn lw_tbl v_s_X5_readNumber := gd_c (List.mem_of_getElem? (i := 722) (by decide +kernel)) rfl (goodIn_app (gd_c (List.mem_of_getElem? (i := 310) (by decide +kernel)) rfl (gd_c (List.mem_of_getElem? (i := 312) (by decide +kernel)) rfl (gd_c (List.mem_of_getElem? (i := 308) (by decide +kernel)) rfl (gd_c (List.mem_of_getElem? (i := 699) (by decide +kernel)) rfl (gd_c (List.mem_of_getElem? (i := 701) (by decide +kernel)) rfl (gd_c (List.mem_of_getElem? (i := 10) (by decide +kernel)) rfl (gd_c (List.mem_of_getElem? (i := 131) (by decide +kernel)) rfl (gd_c (List.mem_of_getElem? (i := 703) (by decide +kernel)) rfl (gd_c (List.mem_of_getElem? (i := 705) (by decide +kernel)) rfl (gd_c (List.mem_of_getElem? (i := 11) (by decide +kernel)) rfl (gd_nil))))))))))) (goodIn_app kfX5 (goodIn_app k_s_X5_refuse (goodIn_app k_s_X5_step (gd_nil)))))
set_option maxHeartbeats 2000000 in
set_option maxRecDepth 100000 in
theorem c_s_X5_readNumber (l : Launch) (dC : Nat → ClassId) (dI : Nat → Nat → Nat) (cB cI cJ cZ cP : ClassId) (h0 : Nat) (h1 : Nat) (h2 : Nat) (g1 : Nat → Int32) (h3 : Nat) (g2 : Nat → Int32) (h4 : Nat) (g3 : Nat → Int64) (a0 : Int32) (ha0 : rg (0) (1601) a0) (a1 : Int32) (ha1 : rg (0) (1600) a1) (h5 : Nat) (a9 : Int32) (a10 : Int32) (a11 : Int32) (a12 : Int32) (a13 : Int32) (p0 : Int32) (p1 : Int32) (sz : Nat) : Met l yX5_readNumber v_s_X5_readNumber ({ frames := 1, cells := 0, slots := 0, locals := 21 }) (va_Pc [.ref h0, .int p0, .int p1] (fun U => U.heap.size = sz ∧ va_P (dC, dI) vwCl [(h0, .inr (5, [.ref h1, .ref h2, .ref h3, .ref h4, .int a0, .int a1, .ref h5, .int a9, .int a10, .int a11, .int a12, .int a13])), (h2, .inl (cI, 1601, .inl g1)), (h3, .inl (cI, 1601, .inl g2)), (h4, .inl (cJ, 1601, .inr (.inl g3)))] U.heap ∧ va_K (dC, dI) vwCl (ty5 cB cI cJ cZ cP) U ∧ va_D (fun _ => True) [(h0, .inr (5, [.ref h1, .ref h2, .ref h3, .ref h4, .int a0, .int a1, .ref h5, .int a9, .int a10, .int a11, .int a12, .int a13])), (h2, .inl (cI, 1601, .inl g1)), (h3, .inl (cI, 1601, .inl g2)), (h4, .inl (cJ, 1601, .inr (.inl g3)))])) (va_Qi (fun (r : Int32) (u9 : Unit) => True) (fun u9 t => ∃ (z0 : Int32) (z1 : Int32) (z2 : Int32), rg (0) (1600) z0 ∧ va_P (dC, dI) vwCl [(h0, .inr (5, [.ref h1, .ref h2, .ref h3, .ref h4, .int a0, .int z0, .ref h5, .int a9, .int a10, .int a11, .int z1, .int z2])), (h2, .inl (cI, 1601, .inl g1)), (h3, .inl (cI, 1601, .inl g2)), (h4, .inl (cJ, 1601, .inr (.inl g3)))] t.heap ∧ va_D (va_A [(h0, .inr (5, [.ref h1, .ref h2, .ref h3, .ref h4, .int a0, .int a1, .ref h5, .int a9, .int a10, .int a11, .int a12, .int a13])), (h2, .inl (cI, 1601, .inl g1)), (h3, .inl (cI, 1601, .inl g2)), (h4, .inl (cJ, 1601, .inr (.inl g3)))] sz) [(h0, .inr (5, [.ref h1, .ref h2, .ref h3, .ref h4, .int a0, .int z0, .ref h5, .int a9, .int a10, .int a11, .int z1, .int z2])), (h2, .inl (cI, 1601, .inl g1)), (h3, .inl (cI, 1601, .inl g2)), (h4, .inl (cJ, 1601, .inr (.inl g3)))]) (va_A [(h0, .inr (5, [.ref h1, .ref h2, .ref h3, .ref h4, .int a0, .int a1, .ref h5, .int a9, .int a10, .int a11, .int a12, .int a13])), (h2, .inl (cI, 1601, .inl g1)), (h3, .inl (cI, 1601, .inl g2)), (h4, .inl (cJ, 1601, .inr (.inl g3)))] sz)) 0 0 (va_A [(h0, .inr (5, [.ref h1, .ref h2, .ref h3, .ref h4, .int a0, .int a1, .ref h5, .int a9, .int a10, .int a11, .int a12, .int a13])), (h2, .inl (cI, 1601, .inl g1)), (h3, .inl (cI, 1601, .inl g2)), (h4, .inl (cJ, 1601, .inr (.inl g3)))] sz) := by
  refine Met.ofW (cc := cX5_readNumber) (maxL := 4) (ret := (some .int)) (by decide) rfl ?_
  intro p e s m args below meth c s₁ B hml hv
  obtain ⟨rfl, hsz, hP, hK, hD0⟩ := hv
  have hx := B.exec
  have hb := B.bytes
  have hr := B.returns
  have hts := atoms_spec (ws := v_s_X5_readNumber) B.pre
  have hown : s.vm.findClass RX5 = some m.cls := findClass_of_methodNamed B.named
  have hlocks := B.notSynchronized
  have hinX5 : ∀ w ∈ wsX50, w ∈ v_s_X5_readNumber := fun _ h => List.mem_cons_of_mem _ (List.mem_append_right _ (List.mem_append_left _ h))
  subst hsz
  have hD := hD0.self (sz := s.heap.size)
  generalize hAe : va_A [(h0, .inr (5, [.ref h1, .ref h2, .ref h3, .ref h4, .int a0, .int a1, .ref h5, .int a9, .int a10, .int a11, .int a12, .int a13])), (h2, .inl (cI, 1601, .inl g1)), (h3, .inl (cI, 1601, .inl g2)), (h4, .inl (cJ, 1601, .inr (.inl g3)))] s.heap.size = A at hD ⊢
  have hA : ∀ q : Nat, s.heap.size ≤ q → A q := fun q h => by rw [← hAe]; exact Or.inr h
  have hP : va_P (dC, dI) vwCl [(h0, .inr (5, [.ref h1, .ref h2, .ref h3, .ref h4, .int a0, .int a1, .ref h5, .int a9, .int a10, .int a11, .int a12, .int a13])), (h2, .inl (cI, 1601, .inl g1)), (h3, .inl (cI, 1601, .inl g2)), (h4, .inl (cJ, 1601, .inr (.inl g3)))] s.heap := hP
  have hl := lv_entry ([.ref h0, .int p0, .int p1]) (n := 4) (Nat.le_of_ble_eq_true rfl)
  rw [lg_entry_eq]
  generalize (lg_sl ([.ref h0, .int p0, .int p1]) ++ List.replicate (4 - (lg_sl ([.ref h0, .int p0, .int p1])).length) Slot.unset).toArray = ls at hl ⊢
  have hl : lv_has ls 4 [(0, .ref h0), (1, .int p0), (2, .int p1)] := hl
  refine W_gen (A := A) hP (fun H locs hP hS => ?_)
  refine lv_aload_n hx hb dX5_readNumber_0 rfl (lv_at hl 0 rfl) ?_
  refine va_get (D := (dC, dI)) (ci := 5) (v := .ref h4) (C := RX5) (T := TX5) (N := 12) hx hb hts hinX5 hown hK hP 0 rfl rfl 3 (by decide) (hts (.fieldLink RX5 22 "MayRings$Reader" "values" "[J") (List.mem_of_getElem? (i := 1) rfl)) (fun _ h9 => h9) rfl dX5_readNumber_1 ?_
  refine lv_aload_n hx hb dX5_readNumber_4 rfl (lv_at hl 0 rfl) ?_
  refine va_get (D := (dC, dI)) (ci := 5) (v := .int a1) (C := RX5) (T := TX5) (N := 12) hx hb hts hinX5 hown hK hP 0 rfl rfl 5 (by decide) (hts (.fieldLink RX5 29 "MayRings$Reader" "here" "I") (List.mem_of_getElem? (i := 2) rfl)) (fun _ h9 => h9) rfl dX5_readNumber_5 ?_
  refine va_lald hx hb hK hP 3 2 rfl rfl (rg_in (n := 1601) (rg_mono ha1 (by decide) (by decide))) dX5_readNumber_8 ?_
  refine lv_topl (fun y_1 ey_1 => ?_)
  clear ey_1
  refine lv_l2i hx hb dX5_readNumber_9 rfl ?_
  refine lv_topi (fun x_2 ex_2 => ?_)
  clear ex_2
  refine lv_istore_n (lv' := [(3, .int x_2), (0, .ref h0), (1, .int p0), (2, .int p1)]) hx hb dX5_readNumber_10 rfl hl (by decide) rfl (fun ls hl => ?_)
  refine lv_aload_n hx hb dX5_readNumber_11 rfl (lv_at hl 1 rfl) ?_
  refine va_get (D := (dC, dI)) (ci := 5) (v := .ref h2) (C := RX5) (T := TX5) (N := 12) hx hb hts hinX5 hown hK hP 0 rfl rfl 1 (by decide) (hts (.fieldLink RX5 15 "MayRings$Reader" "kinds" "[I") (List.mem_of_getElem? (i := 3) rfl)) (fun _ h9 => h9) rfl dX5_readNumber_12 ?_
  refine lv_aload_n hx hb dX5_readNumber_15 rfl (lv_at hl 1 rfl) ?_
  refine va_get (D := (dC, dI)) (ci := 5) (v := .int a1) (C := RX5) (T := TX5) (N := 12) hx hb hts hinX5 hown hK hP 0 rfl rfl 5 (by decide) (hts (.fieldLink RX5 29 "MayRings$Reader" "here" "I") (List.mem_of_getElem? (i := 2) rfl)) (fun _ h9 => h9) rfl dX5_readNumber_16 ?_
  refine va_iald hx hb hK hP 1 1 rfl rfl (rg_in (n := 1601) (rg_mono ha1 (by decide) (by decide))) dX5_readNumber_19 ?_
  refine lv_topi (fun x_3 ex_3 => ?_)
  refine lv_bipush (v := 17) hx hb dX5_readNumber_20 (by decide) ?_
  refine lv_icmp_eq (tgt := 33) hx hb dX5_readNumber_22 (by decide) (fun c_4 => ?_) (fun c_4 => ?_)
  · skip
    have h_5 : rg (17) (17) x_3 := by have ha := (rg_any x_3); have hb_ := (rg_k (x := 17) (c := 17) (by decide)); simp only [rg, fa_lt, fa_le, fa_eq, (by decide : (17 : Int32).toInt = 17)] at ha hb_ c_4; simp only [rg]; omega
    refine lv_iload_n hx hb dX5_readNumber_33 rfl (lv_at hl 0 rfl) ?_
    refine lv_iload_n hx hb dX5_readNumber_34 rfl (lv_at hl 2 rfl) ?_
    refine lv_icmp_lt (tgt := 43) hx hb dX5_readNumber_35 (by decide) (fun c_6 => ?_) (fun c_6 => ?_)
    · skip
      have h_7 : rg (-2147483648) (2147483646) x_2 := by have ha := (rg_any x_2); have hb_ := (rg_any p0); simp only [rg, fa_lt, fa_le, fa_eq] at ha hb_ c_6; simp only [rg]; omega
      have h_8 : rg (-2147483647) (2147483647) p0 := by have ha := h_7; have hb_ := (rg_any p0); have hc_ := c_6; simp only [rg, fa_lt, fa_le, fa_eq] at ha hb_ hc_; simp only [rg]; omega
      have h_9 : rg (-2147483647) (2147483647) p0 := by have ha := (rg_any x_2); have hb_ := (rg_any p0); simp only [rg, fa_lt, fa_le, fa_eq] at ha hb_ c_6; simp only [rg]; omega
      refine lv_aload_n hx hb dX5_readNumber_43 rfl (lv_at hl 1 rfl) ?_
      refine lv_iconst (v := 4) hx hb dX5_readNumber_44 (by decide) ?_
      have hPc := hP.sub (ws' := [(h0, .inr (5, [.ref h1, .ref h2, .ref h3, .ref h4, .int a0, .int a1, .ref h5, .int a9, .int a10, .int a11, .int a12, .int a13])), (h2, .inl (cI, 1601, .inl g1)), (h3, .inl (cI, 1601, .inl g2))]) [0, 1, 2] rfl
      have hDc := hD.sub (ws' := [(h0, .inr (5, [.ref h1, .ref h2, .ref h3, .ref h4, .int a0, .int a1, .ref h5, .int a9, .int a10, .int a11, .int a12, .int a13])), (h2, .inl (cI, 1601, .inl g1)), (h3, .inl (cI, 1601, .inl g2))]) [0, 1, 2] (by decide) rfl
      have hFc := va_free (wc := [(h0, .inr (5, [.ref h1, .ref h2, .ref h3, .ref h4, .int a0, .int a1, .ref h5, .int a9, .int a10, .int a11, .int a12, .int a13])), (h2, .inl (cI, 1601, .inl g1)), (h3, .inl (cI, 1601, .inl g2))]) hD hS hA [0, 1, 2] rfl
      refine va_callv (va_runV (As := [.int 4]) (rest := []) ⟨hx, hb, hml, hown, hts⟩ (c_s_X5_refuse l dC dI cB cI cJ cZ cP h0 h1 h2 g1 h3 g2 h4 a0 a1 (rg_mono ha1 (by decide) (by decide)) h5 a9 a10 a11 a12 a13 4 H.size) (cwV 1 hts (gd_V (List.mem_of_getElem? (i := 4) rfl) (List.mem_of_getElem? (i := 5) rfl) (List.mem_of_getElem? (i := 6) rfl) (List.mem_of_getElem? (i := 7) rfl) (gd_mono k_s_X5_refuse (fun _ h => List.mem_cons_of_mem _ (List.mem_append_right _ (List.mem_append_right _ (List.mem_append_left _ h)))))) rfl rfl rfl (by decide +kernel) ⟨Nat.le_of_ble_eq_true rfl, Nat.le_of_ble_eq_true rfl⟩) ⟨fun a U g mk q => by obtain ⟨q0, q1, qP, qK, qD⟩ := q; exact ⟨q0, q1, qP, va_K.moved (u := U) (U := U.calling g mk a) (Vm.Alike.refl U.vm) qK, qD⟩, va_recv hK hPc (ci := 5) (q0 := 0) rfl rfl, fun U hU hW => ⟨rfl, by rw [hU], by rw [hU]; exact hPc, va_K.moved hW.alike hK, hDc.weaken (fun _ _ _ _ => trivial)⟩⟩ rfl rfl hl.1 rfl (lv_room (Nat.le_of_ble_eq_true rfl)) dX5_readNumber_45 ⟨Nat.le_of_ble_eq_true rfl, Nat.le_of_ble_eq_true rfl⟩) hS (fun q _ h => hFc q h) hFc (fun u t H1 locs ht hvm hw hB hz1 hk1 hS => ?_)
      obtain ⟨x_11, x_12, hP1, hD1⟩ := hB
      rw [ht] at hP1
      obtain ⟨hP, hD⟩ := va_join (wr := [(h4, .inl (cJ, 1601, .inr (.inl g3)))]) (w1 := [(h0, .inr (5, [.ref h1, .ref h2, .ref h3, .ref h4, .int a0, .int a1, .ref h5, .int a9, .int a10, .int a11, .int x_11, .int x_12])), (h2, .inl (cI, 1601, .inl g1)), (h3, .inl (cI, 1601, .inl g2))]) hP hD [0, 1, 2] [3] rfl rfl (by decide) (by decide) hk1 hFc hP1 hD1
      generalize H1 = H at hP hS ⊢
      replace hP : va_P (dC, dI) vwCl [(h4, .inl (cJ, 1601, .inr (.inl g3))), (h0, .inr (5, [.ref h1, .ref h2, .ref h3, .ref h4, .int a0, .int a1, .ref h5, .int a9, .int a10, .int a11, .int x_11, .int x_12])), (h2, .inl (cI, 1601, .inl g1)), (h3, .inl (cI, 1601, .inl g2))] H := hP
      replace hD : va_D A [(h4, .inl (cJ, 1601, .inr (.inl g3))), (h0, .inr (5, [.ref h1, .ref h2, .ref h3, .ref h4, .int a0, .int a1, .ref h5, .int a9, .int a10, .int a11, .int x_11, .int x_12])), (h2, .inl (cI, 1601, .inl g1)), (h3, .inl (cI, 1601, .inl g2))] := hD
      refine lv_aload_n hx hb dX5_readNumber_48 rfl (lv_at hl 1 rfl) ?_
      have hPc := hP.sub (ws' := [(h0, .inr (5, [.ref h1, .ref h2, .ref h3, .ref h4, .int a0, .int a1, .ref h5, .int a9, .int a10, .int a11, .int x_11, .int x_12]))]) [1] rfl
      have hDc := hD.sub (ws' := [(h0, .inr (5, [.ref h1, .ref h2, .ref h3, .ref h4, .int a0, .int a1, .ref h5, .int a9, .int a10, .int a11, .int x_11, .int x_12]))]) [1] (by decide) rfl
      have hFc := va_free (wc := [(h0, .inr (5, [.ref h1, .ref h2, .ref h3, .ref h4, .int a0, .int a1, .ref h5, .int a9, .int a10, .int a11, .int x_11, .int x_12]))]) hD hS hA [1] rfl
      refine va_callv (va_runV (As := []) (rest := []) ⟨hx, hb, hml, hown, hts⟩ (c_s_X5_step l dC dI cB cI cJ cZ cP h0 h1 h2 h3 h4 a0 (rg_mono ha0 (by decide) (by decide)) a1 (rg_mono ha1 (by decide) (by decide)) h5 a9 a10 a11 x_11 x_12 H.size) (cwV 0 hts (gd_V (List.mem_of_getElem? (i := 8) rfl) (List.mem_of_getElem? (i := 9) rfl) (List.mem_of_getElem? (i := 10) rfl) (List.mem_of_getElem? (i := 7) rfl) (gd_mono k_s_X5_step (fun _ h => List.mem_cons_of_mem _ (List.mem_append_right _ (List.mem_append_right _ (List.mem_append_right _ (List.mem_append_left _ h))))))) rfl rfl rfl (by decide +kernel) ⟨Nat.le_of_ble_eq_true rfl, Nat.le_of_ble_eq_true rfl⟩) ⟨fun a U g mk q => by obtain ⟨q0, q1, qP, qK, qD⟩ := q; exact ⟨q0, q1, qP, va_K.moved (u := U) (U := U.calling g mk a) (Vm.Alike.refl U.vm) qK, qD⟩, va_recv hK hPc (ci := 5) (q0 := 0) rfl rfl, fun U hU hW => ⟨rfl, by rw [hU], by rw [hU]; exact hPc, va_K.moved hW.alike hK, hDc.weaken (fun _ _ _ _ => trivial)⟩⟩ rfl rfl hl.1 rfl (lv_room (Nat.le_of_ble_eq_true rfl)) dX5_readNumber_49 ⟨Nat.le_of_ble_eq_true rfl, Nat.le_of_ble_eq_true rfl⟩) hS (fun q _ h => hFc q h) hFc (fun u t H1 locs ht hvm hw hB hz1 hk1 hS => ?_)
      obtain ⟨x_14, hx_14, hP1, hD1⟩ := hB
      rw [ht] at hP1
      obtain ⟨hP, hD⟩ := va_join (wr := [(h4, .inl (cJ, 1601, .inr (.inl g3))), (h2, .inl (cI, 1601, .inl g1)), (h3, .inl (cI, 1601, .inl g2))]) (w1 := [(h0, .inr (5, [.ref h1, .ref h2, .ref h3, .ref h4, .int a0, .int x_14, .ref h5, .int a9, .int a10, .int a11, .int x_11, .int x_12]))]) hP hD [1] [0, 2, 3] rfl rfl (by decide) (by decide) hk1 hFc hP1 hD1
      generalize H1 = H at hP hS ⊢
      replace hP : va_P (dC, dI) vwCl [(h4, .inl (cJ, 1601, .inr (.inl g3))), (h2, .inl (cI, 1601, .inl g1)), (h3, .inl (cI, 1601, .inl g2)), (h0, .inr (5, [.ref h1, .ref h2, .ref h3, .ref h4, .int a0, .int x_14, .ref h5, .int a9, .int a10, .int a11, .int x_11, .int x_12]))] H := hP
      replace hD : va_D A [(h4, .inl (cJ, 1601, .inr (.inl g3))), (h2, .inl (cI, 1601, .inl g1)), (h3, .inl (cI, 1601, .inl g2)), (h0, .inr (5, [.ref h1, .ref h2, .ref h3, .ref h4, .int a0, .int x_14, .ref h5, .int a9, .int a10, .int a11, .int x_11, .int x_12]))] := hD
      refine lv_iload_n hx hb dX5_readNumber_52 rfl (lv_at hl 0 rfl) ?_
      have hP9 := hP.sub (ws' := [(h0, .inr (5, [.ref h1, .ref h2, .ref h3, .ref h4, .int a0, .int x_14, .ref h5, .int a9, .int a10, .int a11, .int x_11, .int x_12])), (h2, .inl (cI, 1601, .inl g1)), (h3, .inl (cI, 1601, .inl g2)), (h4, .inl (cJ, 1601, .inr (.inl g3)))]) [3, 1, 2, 0] rfl
      have hD9 := hD.sub (ws' := [(h0, .inr (5, [.ref h1, .ref h2, .ref h3, .ref h4, .int a0, .int x_14, .ref h5, .int a9, .int a10, .int a11, .int x_11, .int x_12])), (h2, .inl (cI, 1601, .inl g1)), (h3, .inl (cI, 1601, .inl g2)), (h4, .inl (cJ, 1601, .inr (.inl g3)))]) [3, 1, 2, 0] (by decide) rfl
      exact W.iret (v := x_2) hx hb hr (fun t ht hW => ⟨⟨x_2, (), rfl, trivial, ⟨x_14, x_11, x_12, (rg_mono hx_14 (by decide) (by decide)), by rw [ht]; exact hP9, hD9⟩⟩, hS.F ht⟩) hS.2.2 dX5_readNumber_53
    · skip
      refine lv_iload_n hx hb dX5_readNumber_38 rfl (lv_at hl 0 rfl) ?_
      refine lv_iload_n hx hb dX5_readNumber_39 rfl (lv_at hl 3 rfl) ?_
      refine lv_icmp_le (tgt := 48) hx hb dX5_readNumber_40 (by decide) (fun c_15 => ?_) (fun c_15 => ?_)
      · skip
        refine lv_aload_n hx hb dX5_readNumber_48 rfl (lv_at hl 1 rfl) ?_
        have hPc := hP.sub (ws' := [(h0, .inr (5, [.ref h1, .ref h2, .ref h3, .ref h4, .int a0, .int a1, .ref h5, .int a9, .int a10, .int a11, .int a12, .int a13]))]) [0] rfl
        have hDc := hD.sub (ws' := [(h0, .inr (5, [.ref h1, .ref h2, .ref h3, .ref h4, .int a0, .int a1, .ref h5, .int a9, .int a10, .int a11, .int a12, .int a13]))]) [0] (by decide) rfl
        have hFc := va_free (wc := [(h0, .inr (5, [.ref h1, .ref h2, .ref h3, .ref h4, .int a0, .int a1, .ref h5, .int a9, .int a10, .int a11, .int a12, .int a13]))]) hD hS hA [0] rfl
        refine va_callv (va_runV (As := []) (rest := []) ⟨hx, hb, hml, hown, hts⟩ (c_s_X5_step l dC dI cB cI cJ cZ cP h0 h1 h2 h3 h4 a0 (rg_mono ha0 (by decide) (by decide)) a1 (rg_mono ha1 (by decide) (by decide)) h5 a9 a10 a11 a12 a13 H.size) (cwV 0 hts (gd_V (List.mem_of_getElem? (i := 8) rfl) (List.mem_of_getElem? (i := 9) rfl) (List.mem_of_getElem? (i := 10) rfl) (List.mem_of_getElem? (i := 7) rfl) (gd_mono k_s_X5_step (fun _ h => List.mem_cons_of_mem _ (List.mem_append_right _ (List.mem_append_right _ (List.mem_append_right _ (List.mem_append_left _ h))))))) rfl rfl rfl (by decide +kernel) ⟨Nat.le_of_ble_eq_true rfl, Nat.le_of_ble_eq_true rfl⟩) ⟨fun a U g mk q => by obtain ⟨q0, q1, qP, qK, qD⟩ := q; exact ⟨q0, q1, qP, va_K.moved (u := U) (U := U.calling g mk a) (Vm.Alike.refl U.vm) qK, qD⟩, va_recv hK hPc (ci := 5) (q0 := 0) rfl rfl, fun U hU hW => ⟨rfl, by rw [hU], by rw [hU]; exact hPc, va_K.moved hW.alike hK, hDc.weaken (fun _ _ _ _ => trivial)⟩⟩ rfl rfl hl.1 rfl (lv_room (Nat.le_of_ble_eq_true rfl)) dX5_readNumber_49 ⟨Nat.le_of_ble_eq_true rfl, Nat.le_of_ble_eq_true rfl⟩) hS (fun q _ h => hFc q h) hFc (fun u t H1 locs ht hvm hw hB hz1 hk1 hS => ?_)
        obtain ⟨x_17, hx_17, hP1, hD1⟩ := hB
        rw [ht] at hP1
        obtain ⟨hP, hD⟩ := va_join (wr := [(h2, .inl (cI, 1601, .inl g1)), (h3, .inl (cI, 1601, .inl g2)), (h4, .inl (cJ, 1601, .inr (.inl g3)))]) (w1 := [(h0, .inr (5, [.ref h1, .ref h2, .ref h3, .ref h4, .int a0, .int x_17, .ref h5, .int a9, .int a10, .int a11, .int a12, .int a13]))]) hP hD [0] [1, 2, 3] rfl rfl (by decide) (by decide) hk1 hFc hP1 hD1
        generalize H1 = H at hP hS ⊢
        replace hP : va_P (dC, dI) vwCl [(h2, .inl (cI, 1601, .inl g1)), (h3, .inl (cI, 1601, .inl g2)), (h4, .inl (cJ, 1601, .inr (.inl g3))), (h0, .inr (5, [.ref h1, .ref h2, .ref h3, .ref h4, .int a0, .int x_17, .ref h5, .int a9, .int a10, .int a11, .int a12, .int a13]))] H := hP
        replace hD : va_D A [(h2, .inl (cI, 1601, .inl g1)), (h3, .inl (cI, 1601, .inl g2)), (h4, .inl (cJ, 1601, .inr (.inl g3))), (h0, .inr (5, [.ref h1, .ref h2, .ref h3, .ref h4, .int a0, .int x_17, .ref h5, .int a9, .int a10, .int a11, .int a12, .int a13]))] := hD
        refine lv_iload_n hx hb dX5_readNumber_52 rfl (lv_at hl 0 rfl) ?_
        have hP9 := hP.sub (ws' := [(h0, .inr (5, [.ref h1, .ref h2, .ref h3, .ref h4, .int a0, .int x_17, .ref h5, .int a9, .int a10, .int a11, .int a12, .int a13])), (h2, .inl (cI, 1601, .inl g1)), (h3, .inl (cI, 1601, .inl g2)), (h4, .inl (cJ, 1601, .inr (.inl g3)))]) [3, 0, 1, 2] rfl
        have hD9 := hD.sub (ws' := [(h0, .inr (5, [.ref h1, .ref h2, .ref h3, .ref h4, .int a0, .int x_17, .ref h5, .int a9, .int a10, .int a11, .int a12, .int a13])), (h2, .inl (cI, 1601, .inl g1)), (h3, .inl (cI, 1601, .inl g2)), (h4, .inl (cJ, 1601, .inr (.inl g3)))]) [3, 0, 1, 2] (by decide) rfl
        exact W.iret (v := x_2) hx hb hr (fun t ht hW => ⟨⟨x_2, (), rfl, trivial, ⟨x_17, a12, a13, (rg_mono hx_17 (by decide) (by decide)), by rw [ht]; exact hP9, hD9⟩⟩, hS.F ht⟩) hS.2.2 dX5_readNumber_53
      · skip
        have h_18 : rg (-2147483647) (2147483647) x_2 := by have ha := (rg_any x_2); have hb_ := (rg_any p1); simp only [rg, fa_lt, fa_le, fa_eq] at ha hb_ c_15; simp only [rg]; omega
        have h_19 : rg (-2147483648) (2147483646) p1 := by have ha := h_18; have hb_ := (rg_any p1); have hc_ := c_15; simp only [rg, fa_lt, fa_le, fa_eq] at ha hb_ hc_; simp only [rg]; omega
        have h_20 : rg (-2147483648) (2147483646) p1 := by have ha := (rg_any x_2); have hb_ := (rg_any p1); simp only [rg, fa_lt, fa_le, fa_eq] at ha hb_ c_15; simp only [rg]; omega
        refine lv_aload_n hx hb dX5_readNumber_43 rfl (lv_at hl 1 rfl) ?_
        refine lv_iconst (v := 4) hx hb dX5_readNumber_44 (by decide) ?_
        have hPc := hP.sub (ws' := [(h0, .inr (5, [.ref h1, .ref h2, .ref h3, .ref h4, .int a0, .int a1, .ref h5, .int a9, .int a10, .int a11, .int a12, .int a13])), (h2, .inl (cI, 1601, .inl g1)), (h3, .inl (cI, 1601, .inl g2))]) [0, 1, 2] rfl
        have hDc := hD.sub (ws' := [(h0, .inr (5, [.ref h1, .ref h2, .ref h3, .ref h4, .int a0, .int a1, .ref h5, .int a9, .int a10, .int a11, .int a12, .int a13])), (h2, .inl (cI, 1601, .inl g1)), (h3, .inl (cI, 1601, .inl g2))]) [0, 1, 2] (by decide) rfl
        have hFc := va_free (wc := [(h0, .inr (5, [.ref h1, .ref h2, .ref h3, .ref h4, .int a0, .int a1, .ref h5, .int a9, .int a10, .int a11, .int a12, .int a13])), (h2, .inl (cI, 1601, .inl g1)), (h3, .inl (cI, 1601, .inl g2))]) hD hS hA [0, 1, 2] rfl
        refine va_callv (va_runV (As := [.int 4]) (rest := []) ⟨hx, hb, hml, hown, hts⟩ (c_s_X5_refuse l dC dI cB cI cJ cZ cP h0 h1 h2 g1 h3 g2 h4 a0 a1 (rg_mono ha1 (by decide) (by decide)) h5 a9 a10 a11 a12 a13 4 H.size) (cwV 1 hts (gd_V (List.mem_of_getElem? (i := 4) rfl) (List.mem_of_getElem? (i := 5) rfl) (List.mem_of_getElem? (i := 6) rfl) (List.mem_of_getElem? (i := 7) rfl) (gd_mono k_s_X5_refuse (fun _ h => List.mem_cons_of_mem _ (List.mem_append_right _ (List.mem_append_right _ (List.mem_append_left _ h)))))) rfl rfl rfl (by decide +kernel) ⟨Nat.le_of_ble_eq_true rfl, Nat.le_of_ble_eq_true rfl⟩) ⟨fun a U g mk q => by obtain ⟨q0, q1, qP, qK, qD⟩ := q; exact ⟨q0, q1, qP, va_K.moved (u := U) (U := U.calling g mk a) (Vm.Alike.refl U.vm) qK, qD⟩, va_recv hK hPc (ci := 5) (q0 := 0) rfl rfl, fun U hU hW => ⟨rfl, by rw [hU], by rw [hU]; exact hPc, va_K.moved hW.alike hK, hDc.weaken (fun _ _ _ _ => trivial)⟩⟩ rfl rfl hl.1 rfl (lv_room (Nat.le_of_ble_eq_true rfl)) dX5_readNumber_45 ⟨Nat.le_of_ble_eq_true rfl, Nat.le_of_ble_eq_true rfl⟩) hS (fun q _ h => hFc q h) hFc (fun u t H1 locs ht hvm hw hB hz1 hk1 hS => ?_)
        obtain ⟨x_22, x_23, hP1, hD1⟩ := hB
        rw [ht] at hP1
        obtain ⟨hP, hD⟩ := va_join (wr := [(h4, .inl (cJ, 1601, .inr (.inl g3)))]) (w1 := [(h0, .inr (5, [.ref h1, .ref h2, .ref h3, .ref h4, .int a0, .int a1, .ref h5, .int a9, .int a10, .int a11, .int x_22, .int x_23])), (h2, .inl (cI, 1601, .inl g1)), (h3, .inl (cI, 1601, .inl g2))]) hP hD [0, 1, 2] [3] rfl rfl (by decide) (by decide) hk1 hFc hP1 hD1
        generalize H1 = H at hP hS ⊢
        replace hP : va_P (dC, dI) vwCl [(h4, .inl (cJ, 1601, .inr (.inl g3))), (h0, .inr (5, [.ref h1, .ref h2, .ref h3, .ref h4, .int a0, .int a1, .ref h5, .int a9, .int a10, .int a11, .int x_22, .int x_23])), (h2, .inl (cI, 1601, .inl g1)), (h3, .inl (cI, 1601, .inl g2))] H := hP
        replace hD : va_D A [(h4, .inl (cJ, 1601, .inr (.inl g3))), (h0, .inr (5, [.ref h1, .ref h2, .ref h3, .ref h4, .int a0, .int a1, .ref h5, .int a9, .int a10, .int a11, .int x_22, .int x_23])), (h2, .inl (cI, 1601, .inl g1)), (h3, .inl (cI, 1601, .inl g2))] := hD
        refine lv_aload_n hx hb dX5_readNumber_48 rfl (lv_at hl 1 rfl) ?_
        have hPc := hP.sub (ws' := [(h0, .inr (5, [.ref h1, .ref h2, .ref h3, .ref h4, .int a0, .int a1, .ref h5, .int a9, .int a10, .int a11, .int x_22, .int x_23]))]) [1] rfl
        have hDc := hD.sub (ws' := [(h0, .inr (5, [.ref h1, .ref h2, .ref h3, .ref h4, .int a0, .int a1, .ref h5, .int a9, .int a10, .int a11, .int x_22, .int x_23]))]) [1] (by decide) rfl
        have hFc := va_free (wc := [(h0, .inr (5, [.ref h1, .ref h2, .ref h3, .ref h4, .int a0, .int a1, .ref h5, .int a9, .int a10, .int a11, .int x_22, .int x_23]))]) hD hS hA [1] rfl
        refine va_callv (va_runV (As := []) (rest := []) ⟨hx, hb, hml, hown, hts⟩ (c_s_X5_step l dC dI cB cI cJ cZ cP h0 h1 h2 h3 h4 a0 (rg_mono ha0 (by decide) (by decide)) a1 (rg_mono ha1 (by decide) (by decide)) h5 a9 a10 a11 x_22 x_23 H.size) (cwV 0 hts (gd_V (List.mem_of_getElem? (i := 8) rfl) (List.mem_of_getElem? (i := 9) rfl) (List.mem_of_getElem? (i := 10) rfl) (List.mem_of_getElem? (i := 7) rfl) (gd_mono k_s_X5_step (fun _ h => List.mem_cons_of_mem _ (List.mem_append_right _ (List.mem_append_right _ (List.mem_append_right _ (List.mem_append_left _ h))))))) rfl rfl rfl (by decide +kernel) ⟨Nat.le_of_ble_eq_true rfl, Nat.le_of_ble_eq_true rfl⟩) ⟨fun a U g mk q => by obtain ⟨q0, q1, qP, qK, qD⟩ := q; exact ⟨q0, q1, qP, va_K.moved (u := U) (U := U.calling g mk a) (Vm.Alike.refl U.vm) qK, qD⟩, va_recv hK hPc (ci := 5) (q0 := 0) rfl rfl, fun U hU hW => ⟨rfl, by rw [hU], by rw [hU]; exact hPc, va_K.moved hW.alike hK, hDc.weaken (fun _ _ _ _ => trivial)⟩⟩ rfl rfl hl.1 rfl (lv_room (Nat.le_of_ble_eq_true rfl)) dX5_readNumber_49 ⟨Nat.le_of_ble_eq_true rfl, Nat.le_of_ble_eq_true rfl⟩) hS (fun q _ h => hFc q h) hFc (fun u t H1 locs ht hvm hw hB hz1 hk1 hS => ?_)
        obtain ⟨x_25, hx_25, hP1, hD1⟩ := hB
        rw [ht] at hP1
        obtain ⟨hP, hD⟩ := va_join (wr := [(h4, .inl (cJ, 1601, .inr (.inl g3))), (h2, .inl (cI, 1601, .inl g1)), (h3, .inl (cI, 1601, .inl g2))]) (w1 := [(h0, .inr (5, [.ref h1, .ref h2, .ref h3, .ref h4, .int a0, .int x_25, .ref h5, .int a9, .int a10, .int a11, .int x_22, .int x_23]))]) hP hD [1] [0, 2, 3] rfl rfl (by decide) (by decide) hk1 hFc hP1 hD1
        generalize H1 = H at hP hS ⊢
        replace hP : va_P (dC, dI) vwCl [(h4, .inl (cJ, 1601, .inr (.inl g3))), (h2, .inl (cI, 1601, .inl g1)), (h3, .inl (cI, 1601, .inl g2)), (h0, .inr (5, [.ref h1, .ref h2, .ref h3, .ref h4, .int a0, .int x_25, .ref h5, .int a9, .int a10, .int a11, .int x_22, .int x_23]))] H := hP
        replace hD : va_D A [(h4, .inl (cJ, 1601, .inr (.inl g3))), (h2, .inl (cI, 1601, .inl g1)), (h3, .inl (cI, 1601, .inl g2)), (h0, .inr (5, [.ref h1, .ref h2, .ref h3, .ref h4, .int a0, .int x_25, .ref h5, .int a9, .int a10, .int a11, .int x_22, .int x_23]))] := hD
        refine lv_iload_n hx hb dX5_readNumber_52 rfl (lv_at hl 0 rfl) ?_
        have hP9 := hP.sub (ws' := [(h0, .inr (5, [.ref h1, .ref h2, .ref h3, .ref h4, .int a0, .int x_25, .ref h5, .int a9, .int a10, .int a11, .int x_22, .int x_23])), (h2, .inl (cI, 1601, .inl g1)), (h3, .inl (cI, 1601, .inl g2)), (h4, .inl (cJ, 1601, .inr (.inl g3)))]) [3, 1, 2, 0] rfl
        have hD9 := hD.sub (ws' := [(h0, .inr (5, [.ref h1, .ref h2, .ref h3, .ref h4, .int a0, .int x_25, .ref h5, .int a9, .int a10, .int a11, .int x_22, .int x_23])), (h2, .inl (cI, 1601, .inl g1)), (h3, .inl (cI, 1601, .inl g2)), (h4, .inl (cJ, 1601, .inr (.inl g3)))]) [3, 1, 2, 0] (by decide) rfl
        exact W.iret (v := x_2) hx hb hr (fun t ht hW => ⟨⟨x_2, (), rfl, trivial, ⟨x_25, x_22, x_23, (rg_mono hx_25 (by decide) (by decide)), by rw [ht]; exact hP9, hD9⟩⟩, hS.F ht⟩) hS.2.2 dX5_readNumber_53
  · skip
    refine lv_aload_n hx hb dX5_readNumber_25 rfl (lv_at hl 1 rfl) ?_
    refine lv_iconst (v := 2) hx hb dX5_readNumber_26 (by decide) ?_
    have hPc := hP.sub (ws' := [(h0, .inr (5, [.ref h1, .ref h2, .ref h3, .ref h4, .int a0, .int a1, .ref h5, .int a9, .int a10, .int a11, .int a12, .int a13])), (h2, .inl (cI, 1601, .inl g1)), (h3, .inl (cI, 1601, .inl g2))]) [0, 1, 2] rfl
    have hDc := hD.sub (ws' := [(h0, .inr (5, [.ref h1, .ref h2, .ref h3, .ref h4, .int a0, .int a1, .ref h5, .int a9, .int a10, .int a11, .int a12, .int a13])), (h2, .inl (cI, 1601, .inl g1)), (h3, .inl (cI, 1601, .inl g2))]) [0, 1, 2] (by decide) rfl
    have hFc := va_free (wc := [(h0, .inr (5, [.ref h1, .ref h2, .ref h3, .ref h4, .int a0, .int a1, .ref h5, .int a9, .int a10, .int a11, .int a12, .int a13])), (h2, .inl (cI, 1601, .inl g1)), (h3, .inl (cI, 1601, .inl g2))]) hD hS hA [0, 1, 2] rfl
    refine va_callv (va_runV (As := [.int 2]) (rest := []) ⟨hx, hb, hml, hown, hts⟩ (c_s_X5_refuse l dC dI cB cI cJ cZ cP h0 h1 h2 g1 h3 g2 h4 a0 a1 (rg_mono ha1 (by decide) (by decide)) h5 a9 a10 a11 a12 a13 2 H.size) (cwV 1 hts (gd_V (List.mem_of_getElem? (i := 4) rfl) (List.mem_of_getElem? (i := 5) rfl) (List.mem_of_getElem? (i := 6) rfl) (List.mem_of_getElem? (i := 7) rfl) (gd_mono k_s_X5_refuse (fun _ h => List.mem_cons_of_mem _ (List.mem_append_right _ (List.mem_append_right _ (List.mem_append_left _ h)))))) rfl rfl rfl (by decide +kernel) ⟨Nat.le_of_ble_eq_true rfl, Nat.le_of_ble_eq_true rfl⟩) ⟨fun a U g mk q => by obtain ⟨q0, q1, qP, qK, qD⟩ := q; exact ⟨q0, q1, qP, va_K.moved (u := U) (U := U.calling g mk a) (Vm.Alike.refl U.vm) qK, qD⟩, va_recv hK hPc (ci := 5) (q0 := 0) rfl rfl, fun U hU hW => ⟨rfl, by rw [hU], by rw [hU]; exact hPc, va_K.moved hW.alike hK, hDc.weaken (fun _ _ _ _ => trivial)⟩⟩ rfl rfl hl.1 rfl (lv_room (Nat.le_of_ble_eq_true rfl)) dX5_readNumber_27 ⟨Nat.le_of_ble_eq_true rfl, Nat.le_of_ble_eq_true rfl⟩) hS (fun q _ h => hFc q h) hFc (fun u t H1 locs ht hvm hw hB hz1 hk1 hS => ?_)
    obtain ⟨x_27, x_28, hP1, hD1⟩ := hB
    rw [ht] at hP1
    obtain ⟨hP, hD⟩ := va_join (wr := [(h4, .inl (cJ, 1601, .inr (.inl g3)))]) (w1 := [(h0, .inr (5, [.ref h1, .ref h2, .ref h3, .ref h4, .int a0, .int a1, .ref h5, .int a9, .int a10, .int a11, .int x_27, .int x_28])), (h2, .inl (cI, 1601, .inl g1)), (h3, .inl (cI, 1601, .inl g2))]) hP hD [0, 1, 2] [3] rfl rfl (by decide) (by decide) hk1 hFc hP1 hD1
    generalize H1 = H at hP hS ⊢
    replace hP : va_P (dC, dI) vwCl [(h4, .inl (cJ, 1601, .inr (.inl g3))), (h0, .inr (5, [.ref h1, .ref h2, .ref h3, .ref h4, .int a0, .int a1, .ref h5, .int a9, .int a10, .int a11, .int x_27, .int x_28])), (h2, .inl (cI, 1601, .inl g1)), (h3, .inl (cI, 1601, .inl g2))] H := hP
    replace hD : va_D A [(h4, .inl (cJ, 1601, .inr (.inl g3))), (h0, .inr (5, [.ref h1, .ref h2, .ref h3, .ref h4, .int a0, .int a1, .ref h5, .int a9, .int a10, .int a11, .int x_27, .int x_28])), (h2, .inl (cI, 1601, .inl g1)), (h3, .inl (cI, 1601, .inl g2))] := hD
    refine lv_goto (tgt := 48) hx hb dX5_readNumber_30 (by decide) ?_
    refine lv_aload_n hx hb dX5_readNumber_48 rfl (lv_at hl 1 rfl) ?_
    have hPc := hP.sub (ws' := [(h0, .inr (5, [.ref h1, .ref h2, .ref h3, .ref h4, .int a0, .int a1, .ref h5, .int a9, .int a10, .int a11, .int x_27, .int x_28]))]) [1] rfl
    have hDc := hD.sub (ws' := [(h0, .inr (5, [.ref h1, .ref h2, .ref h3, .ref h4, .int a0, .int a1, .ref h5, .int a9, .int a10, .int a11, .int x_27, .int x_28]))]) [1] (by decide) rfl
    have hFc := va_free (wc := [(h0, .inr (5, [.ref h1, .ref h2, .ref h3, .ref h4, .int a0, .int a1, .ref h5, .int a9, .int a10, .int a11, .int x_27, .int x_28]))]) hD hS hA [1] rfl
    refine va_callv (va_runV (As := []) (rest := []) ⟨hx, hb, hml, hown, hts⟩ (c_s_X5_step l dC dI cB cI cJ cZ cP h0 h1 h2 h3 h4 a0 (rg_mono ha0 (by decide) (by decide)) a1 (rg_mono ha1 (by decide) (by decide)) h5 a9 a10 a11 x_27 x_28 H.size) (cwV 0 hts (gd_V (List.mem_of_getElem? (i := 8) rfl) (List.mem_of_getElem? (i := 9) rfl) (List.mem_of_getElem? (i := 10) rfl) (List.mem_of_getElem? (i := 7) rfl) (gd_mono k_s_X5_step (fun _ h => List.mem_cons_of_mem _ (List.mem_append_right _ (List.mem_append_right _ (List.mem_append_right _ (List.mem_append_left _ h))))))) rfl rfl rfl (by decide +kernel) ⟨Nat.le_of_ble_eq_true rfl, Nat.le_of_ble_eq_true rfl⟩) ⟨fun a U g mk q => by obtain ⟨q0, q1, qP, qK, qD⟩ := q; exact ⟨q0, q1, qP, va_K.moved (u := U) (U := U.calling g mk a) (Vm.Alike.refl U.vm) qK, qD⟩, va_recv hK hPc (ci := 5) (q0 := 0) rfl rfl, fun U hU hW => ⟨rfl, by rw [hU], by rw [hU]; exact hPc, va_K.moved hW.alike hK, hDc.weaken (fun _ _ _ _ => trivial)⟩⟩ rfl rfl hl.1 rfl (lv_room (Nat.le_of_ble_eq_true rfl)) dX5_readNumber_49 ⟨Nat.le_of_ble_eq_true rfl, Nat.le_of_ble_eq_true rfl⟩) hS (fun q _ h => hFc q h) hFc (fun u t H1 locs ht hvm hw hB hz1 hk1 hS => ?_)
    obtain ⟨x_30, hx_30, hP1, hD1⟩ := hB
    rw [ht] at hP1
    obtain ⟨hP, hD⟩ := va_join (wr := [(h4, .inl (cJ, 1601, .inr (.inl g3))), (h2, .inl (cI, 1601, .inl g1)), (h3, .inl (cI, 1601, .inl g2))]) (w1 := [(h0, .inr (5, [.ref h1, .ref h2, .ref h3, .ref h4, .int a0, .int x_30, .ref h5, .int a9, .int a10, .int a11, .int x_27, .int x_28]))]) hP hD [1] [0, 2, 3] rfl rfl (by decide) (by decide) hk1 hFc hP1 hD1
    generalize H1 = H at hP hS ⊢
    replace hP : va_P (dC, dI) vwCl [(h4, .inl (cJ, 1601, .inr (.inl g3))), (h2, .inl (cI, 1601, .inl g1)), (h3, .inl (cI, 1601, .inl g2)), (h0, .inr (5, [.ref h1, .ref h2, .ref h3, .ref h4, .int a0, .int x_30, .ref h5, .int a9, .int a10, .int a11, .int x_27, .int x_28]))] H := hP
    replace hD : va_D A [(h4, .inl (cJ, 1601, .inr (.inl g3))), (h2, .inl (cI, 1601, .inl g1)), (h3, .inl (cI, 1601, .inl g2)), (h0, .inr (5, [.ref h1, .ref h2, .ref h3, .ref h4, .int a0, .int x_30, .ref h5, .int a9, .int a10, .int a11, .int x_27, .int x_28]))] := hD
    refine lv_iload_n hx hb dX5_readNumber_52 rfl (lv_at hl 0 rfl) ?_
    have hP9 := hP.sub (ws' := [(h0, .inr (5, [.ref h1, .ref h2, .ref h3, .ref h4, .int a0, .int x_30, .ref h5, .int a9, .int a10, .int a11, .int x_27, .int x_28])), (h2, .inl (cI, 1601, .inl g1)), (h3, .inl (cI, 1601, .inl g2)), (h4, .inl (cJ, 1601, .inr (.inl g3)))]) [3, 1, 2, 0] rfl
    have hD9 := hD.sub (ws' := [(h0, .inr (5, [.ref h1, .ref h2, .ref h3, .ref h4, .int a0, .int x_30, .ref h5, .int a9, .int a10, .int a11, .int x_27, .int x_28])), (h2, .inl (cI, 1601, .inl g1)), (h3, .inl (cI, 1601, .inl g2)), (h4, .inl (cJ, 1601, .inr (.inl g3)))]) [3, 1, 2, 0] (by decide) rfl
    exact W.iret (v := x_2) hx hb hr (fun t ht hW => ⟨⟨x_2, (), rfl, trivial, ⟨x_30, x_27, x_28, (rg_mono hx_30 (by decide) (by decide)), by rw [ht]; exact hP9, hD9⟩⟩, hS.F ht⟩) hS.2.2 dX5_readNumber_53
def v_s_X5_readBears : List Cond := Cond.code yX5_readBears cX5_readBears 2 none :: ([Cond.fieldLink RX5 43 "MayRings$Reader" "bearsTold" "Z", Cond.fieldLink RX5 35 "MayRings$Reader" "draft" "LMayRings$Valley;", Cond.fieldLink RX5 125 "MayRings$Valley" "houses" "I", Cond.fieldLink RX5 169 "MayRings$Valley" "bears" "[I", Cond.methodLink RX5 162 yX5_readNumber, Cond.instanceMethod yX5_readNumber, Cond.selects RX5 yX5_readNumber yX5_readNumber, Cond.initialized RX5, Cond.methodLink RX5 118 yX5_refuse, Cond.instanceMethod yX5_refuse, Cond.selects RX5 yX5_refuse yX5_refuse] ++ (wsX50 ++ (wsX60 ++ (v_s_X5_readNumber ++ (v_s_X5_refuse ++ ([]))))))
theorem k_s_X5_readBears : GoodIn lw_tbl v_s_X5_readBears := gd_c (List.mem_of_getElem? (i := 730) (by decide +kernel)) rfl (goodIn_app (gd_c (List.mem_of_getElem? (i := 315) (by decide +kernel)) rfl (gd_c (List.mem_of_getElem? (i := 313) (by decide +kernel)) rfl (gd_c (List.mem_of_getElem? (i := 226) (by decide +kernel)) rfl (gd_c (List.mem_of_getElem? (i := 215) (by decide +kernel)) rfl (gd_c (List.mem_of_getElem? (i := 719) (by decide +kernel)) rfl (gd_c (List.mem_of_getElem? (i := 721) (by decide +kernel)) rfl (gd_c (List.mem_of_getElem? (i := 14) (by decide +kernel)) rfl (gd_c (List.mem_of_getElem? (i := 131) (by decide +kernel)) rfl (gd_c (List.mem_of_getElem? (i := 699) (by decide +kernel)) rfl (gd_c (List.mem_of_getElem? (i := 701) (by decide +kernel)) rfl (gd_c (List.mem_of_getElem? (i := 10) (by decide +kernel)) rfl (gd_nil)))))))))))) (goodIn_app kfX5 (goodIn_app kfX6 (goodIn_app k_s_X5_readNumber (goodIn_app k_s_X5_refuse (gd_nil))))))
set_option maxHeartbeats 2000000 in
set_option maxRecDepth 100000 in
theorem c_s_X5_readBears (l : Launch) (dC : Nat → ClassId) (dI : Nat → Nat → Nat) (cB cI cJ cZ cP : ClassId) (h0 : Nat) (h1 : Nat) (h2 : Nat) (g1 : Nat → Int32) (h3 : Nat) (g2 : Nat → Int32) (h4 : Nat) (g3 : Nat → Int64) (a0 : Int32) (ha0 : rg (0) (1601) a0) (a1 : Int32) (ha1 : rg (0) (1600) a1) (h5 : Nat) (h6 : Nat) (h7 : Nat) (h8 : Nat) (g6 : Nat → Int32) (h9 : Nat) (h10 : Nat) (h11 : Nat) (a5 : Int32) (ha5 : rg (0) (9) a5) (a6 : Int32) (a7 : Int32) (a8 : Int32) (a9 : Int32) (a10 : Int32) (a11 : Int32) (a12 : Int32) (a13 : Int32) (sz : Nat) : Met l yX5_readBears v_s_X5_readBears ({ frames := 2, cells := 0, slots := 0, locals := 44 }) (va_Pc [.ref h0] (fun U => U.heap.size = sz ∧ va_P (dC, dI) vwCl [(h0, .inr (5, [.ref h1, .ref h2, .ref h3, .ref h4, .int a0, .int a1, .ref h5, .int a9, .int a10, .int a11, .int a12, .int a13])), (h2, .inl (cI, 1601, .inl g1)), (h3, .inl (cI, 1601, .inl g2)), (h4, .inl (cJ, 1601, .inr (.inl g3))), (h5, .inr (6, [.ref h6, .ref h7, .ref h8, .ref h9, .ref h10, .ref h11, .int a5, .int a6, .int a7, .int a8])), (h8, .inl (cI, 9, .inl g6))] U.heap ∧ va_K (dC, dI) vwCl (ty5 cB cI cJ cZ cP) U ∧ va_D (fun _ => True) [(h0, .inr (5, [.ref h1, .ref h2, .ref h3, .ref h4, .int a0, .int a1, .ref h5, .int a9, .int a10, .int a11, .int a12, .int a13])), (h2, .inl (cI, 1601, .inl g1)), (h3, .inl (cI, 1601, .inl g2)), (h4, .inl (cJ, 1601, .inr (.inl g3))), (h5, .inr (6, [.ref h6, .ref h7, .ref h8, .ref h9, .ref h10, .ref h11, .int a5, .int a6, .int a7, .int a8])), (h8, .inl (cI, 9, .inl g6))])) (va_Qv (fun _ : Unit => True) (fun _ t => ∃ (z0 : Int32) (z1 : Int32) (z2 : Int32) (z3 : Nat → Int32), rg (0) (1600) z0 ∧ va_P (dC, dI) vwCl [(h0, .inr (5, [.ref h1, .ref h2, .ref h3, .ref h4, .int a0, .int z0, .ref h5, .int a9, .int 1, .int a11, .int z1, .int z2])), (h2, .inl (cI, 1601, .inl g1)), (h3, .inl (cI, 1601, .inl g2)), (h4, .inl (cJ, 1601, .inr (.inl g3))), (h5, .inr (6, [.ref h6, .ref h7, .ref h8, .ref h9, .ref h10, .ref h11, .int a5, .int a6, .int a7, .int a8])), (h8, .inl (cI, 9, .inl z3))] t.heap ∧ va_D (va_A [(h0, .inr (5, [.ref h1, .ref h2, .ref h3, .ref h4, .int a0, .int a1, .ref h5, .int a9, .int a10, .int a11, .int a12, .int a13])), (h2, .inl (cI, 1601, .inl g1)), (h3, .inl (cI, 1601, .inl g2)), (h4, .inl (cJ, 1601, .inr (.inl g3))), (h5, .inr (6, [.ref h6, .ref h7, .ref h8, .ref h9, .ref h10, .ref h11, .int a5, .int a6, .int a7, .int a8])), (h8, .inl (cI, 9, .inl g6))] sz) [(h0, .inr (5, [.ref h1, .ref h2, .ref h3, .ref h4, .int a0, .int z0, .ref h5, .int a9, .int 1, .int a11, .int z1, .int z2])), (h2, .inl (cI, 1601, .inl g1)), (h3, .inl (cI, 1601, .inl g2)), (h4, .inl (cJ, 1601, .inr (.inl g3))), (h5, .inr (6, [.ref h6, .ref h7, .ref h8, .ref h9, .ref h10, .ref h11, .int a5, .int a6, .int a7, .int a8])), (h8, .inl (cI, 9, .inl z3))]) (va_A [(h0, .inr (5, [.ref h1, .ref h2, .ref h3, .ref h4, .int a0, .int a1, .ref h5, .int a9, .int a10, .int a11, .int a12, .int a13])), (h2, .inl (cI, 1601, .inl g1)), (h3, .inl (cI, 1601, .inl g2)), (h4, .inl (cJ, 1601, .inr (.inl g3))), (h5, .inr (6, [.ref h6, .ref h7, .ref h8, .ref h9, .ref h10, .ref h11, .int a5, .int a6, .int a7, .int a8])), (h8, .inl (cI, 9, .inl g6))] sz)) 0 0 (va_A [(h0, .inr (5, [.ref h1, .ref h2, .ref h3, .ref h4, .int a0, .int a1, .ref h5, .int a9, .int a10, .int a11, .int a12, .int a13])), (h2, .inl (cI, 1601, .inl g1)), (h3, .inl (cI, 1601, .inl g2)), (h4, .inl (cJ, 1601, .inr (.inl g3))), (h5, .inr (6, [.ref h6, .ref h7, .ref h8, .ref h9, .ref h10, .ref h11, .int a5, .int a6, .int a7, .int a8])), (h8, .inl (cI, 9, .inl g6))] sz) := by
  refine Met.ofW (cc := cX5_readBears) (maxL := 2) (ret := none) (by decide) rfl ?_
  intro p e s m args below meth c s₁ B hml hv
  obtain ⟨rfl, hsz, hP, hK, hD0⟩ := hv
  have hx := B.exec
  have hb := B.bytes
  have hr := B.returns
  have hts := atoms_spec (ws := v_s_X5_readBears) B.pre
  have hown : s.vm.findClass RX5 = some m.cls := findClass_of_methodNamed B.named
  have hlocks := B.notSynchronized
  have hinX5 : ∀ w ∈ wsX50, w ∈ v_s_X5_readBears := fun _ h => List.mem_cons_of_mem _ (List.mem_append_right _ (List.mem_append_left _ h))
  have hinX6 : ∀ w ∈ wsX60, w ∈ v_s_X5_readBears := fun _ h => List.mem_cons_of_mem _ (List.mem_append_right _ (List.mem_append_right _ (List.mem_append_left _ h)))
  subst hsz
  have hD := hD0.self (sz := s.heap.size)
  generalize hAe : va_A [(h0, .inr (5, [.ref h1, .ref h2, .ref h3, .ref h4, .int a0, .int a1, .ref h5, .int a9, .int a10, .int a11, .int a12, .int a13])), (h2, .inl (cI, 1601, .inl g1)), (h3, .inl (cI, 1601, .inl g2)), (h4, .inl (cJ, 1601, .inr (.inl g3))), (h5, .inr (6, [.ref h6, .ref h7, .ref h8, .ref h9, .ref h10, .ref h11, .int a5, .int a6, .int a7, .int a8])), (h8, .inl (cI, 9, .inl g6))] s.heap.size = A at hD ⊢
  have hA : ∀ q : Nat, s.heap.size ≤ q → A q := fun q h => by rw [← hAe]; exact Or.inr h
  have hP : va_P (dC, dI) vwCl [(h0, .inr (5, [.ref h1, .ref h2, .ref h3, .ref h4, .int a0, .int a1, .ref h5, .int a9, .int a10, .int a11, .int a12, .int a13])), (h2, .inl (cI, 1601, .inl g1)), (h3, .inl (cI, 1601, .inl g2)), (h4, .inl (cJ, 1601, .inr (.inl g3))), (h5, .inr (6, [.ref h6, .ref h7, .ref h8, .ref h9, .ref h10, .ref h11, .int a5, .int a6, .int a7, .int a8])), (h8, .inl (cI, 9, .inl g6))] s.heap := hP
  have hl := lv_entry ([.ref h0]) (n := 2) (Nat.le_of_ble_eq_true rfl)
  rw [lg_entry_eq]
  generalize (lg_sl ([.ref h0]) ++ List.replicate (2 - (lg_sl ([.ref h0])).length) Slot.unset).toArray = ls at hl ⊢
  have hl : lv_has ls 2 [(0, .ref h0)] := hl
  refine W_gen (A := A) hP (fun H locs hP hS => ?_)
  refine lv_aload_n hx hb dX5_readBears_0 rfl (lv_at hl 0 rfl) ?_
  refine lv_iconst (v := 1) hx hb dX5_readBears_1 (by decide) ?_
  refine va_put (D := (dC, dI)) (ci := 5) (v := .int 1) (ty := .boolean) (C := RX5) (T := TX5) (N := 12) hx hb hts hinX5 tyX5 tyX5_ok nmX5 hown hK hP hD hS 0 rfl rfl 8 (by decide) (hts (.fieldLink RX5 43 "MayRings$Reader" "bearsTold" "Z") (List.mem_of_getElem? (i := 1) rfl)) (fun _ h9 => h9) rfl (by decide +kernel) (rfl) (rfl) (Nat.le_of_ble_eq_true rfl) dX5_readBears_2 (fun H locs hP hD hS => ?_)
  replace hP : va_P (dC, dI) vwCl [(h0, .inr (5, [.ref h1, .ref h2, .ref h3, .ref h4, .int a0, .int a1, .ref h5, .int a9, .int 1, .int a11, .int a12, .int a13])), (h2, .inl (cI, 1601, .inl g1)), (h3, .inl (cI, 1601, .inl g2)), (h4, .inl (cJ, 1601, .inr (.inl g3))), (h5, .inr (6, [.ref h6, .ref h7, .ref h8, .ref h9, .ref h10, .ref h11, .int a5, .int a6, .int a7, .int a8])), (h8, .inl (cI, 9, .inl g6))] H := hP
  replace hD : va_D A [(h0, .inr (5, [.ref h1, .ref h2, .ref h3, .ref h4, .int a0, .int a1, .ref h5, .int a9, .int 1, .int a11, .int a12, .int a13])), (h2, .inl (cI, 1601, .inl g1)), (h3, .inl (cI, 1601, .inl g2)), (h4, .inl (cJ, 1601, .inr (.inl g3))), (h5, .inr (6, [.ref h6, .ref h7, .ref h8, .ref h9, .ref h10, .ref h11, .int a5, .int a6, .int a7, .int a8])), (h8, .inl (cI, 9, .inl g6))] := hD
  refine lv_aload_n hx hb dX5_readBears_5 rfl (lv_at hl 0 rfl) ?_
  refine va_get (D := (dC, dI)) (ci := 5) (v := .ref h5) (C := RX5) (T := TX5) (N := 12) hx hb hts hinX5 hown hK hP 0 rfl rfl 6 (by decide) (hts (.fieldLink RX5 35 "MayRings$Reader" "draft" "LMayRings$Valley;") (List.mem_of_getElem? (i := 2) rfl)) (fun _ h9 => h9) rfl dX5_readBears_6 ?_
  refine va_get (D := (dC, dI)) (ci := 6) (v := .int a5) (C := RX6) (T := TX6) (N := 10) hx hb hts hinX6 hown hK hP 4 rfl rfl 6 (by decide) (hts (.fieldLink RX5 125 "MayRings$Valley" "houses" "I") (List.mem_of_getElem? (i := 3) rfl)) (fun _ h9 => h9) rfl dX5_readBears_9 ?_
  refine lv_if_ne (tgt := 20) hx hb dX5_readBears_12 (by decide) (fun c_1 => ?_) (fun c_1 => ?_)
  · skip
    have h_2 : rg (1) (9) a5 := by have ha := ha5; have hb_ := (rg_k (x := 0) (c := 0) (by decide)); simp only [rg, fa_lt, fa_le, fa_eq, (by decide : (0 : Int32).toInt = 0)] at ha hb_ c_1; simp only [rg]; omega
    refine lv_iconst (v := 0) hx hb dX5_readBears_20 (by decide) ?_
    refine lv_istore_n (lv' := [(1, .int 0), (0, .ref h0)]) hx hb dX5_readBears_21 rfl hl (by decide) rfl (fun ls hl => ?_)
    refine W_loopM (σ := (Nat → Int32) × Int32 × Int32 × Int32 × Int32) (fun u H locs ls => va_P (dC, dI) vwCl [(h0, .inr (5, [.ref h1, .ref h2, .ref h3, .ref h4, .int a0, .int u.2.2.1, .ref h5, .int a9, .int 1, .int a11, .int u.2.2.2.1, .int u.2.2.2.2])), (h2, .inl (cI, 1601, .inl g1)), (h3, .inl (cI, 1601, .inl g2)), (h4, .inl (cJ, 1601, .inr (.inl g3))), (h5, .inr (6, [.ref h6, .ref h7, .ref h8, .ref h9, .ref h10, .ref h11, .int a5, .int a6, .int a7, .int a8])), (h8, .inl (cI, 9, .inl u.1))] H ∧ va_D A [(h0, .inr (5, [.ref h1, .ref h2, .ref h3, .ref h4, .int a0, .int u.2.2.1, .ref h5, .int a9, .int 1, .int a11, .int u.2.2.2.1, .int u.2.2.2.2])), (h2, .inl (cI, 1601, .inl g1)), (h3, .inl (cI, 1601, .inl g2)), (h4, .inl (cJ, 1601, .inr (.inl g3))), (h5, .inr (6, [.ref h6, .ref h7, .ref h8, .ref h9, .ref h10, .ref h11, .int a5, .int a6, .int a7, .int a8])), (h8, .inl (cI, 9, .inl u.1))] ∧ va_S A s.heap H locs ∧ lv_has ls 2 [(1, .int u.2.1), (0, .ref h0)] ∧ rg (0) (9) u.2.1 ∧ rg (0) (1600) u.2.2.1) (fun u => ((9) - u.2.1.toInt).toNat) 22 [] ?_ (g6, 0, a1, a12, a13) H locs ls ⟨hP, hD, hS, hl, (rg_mono (rg_k (x := 0) (c := 0) (by decide)) (by decide) (by decide)), (rg_mono ha1 (by decide) (by decide))⟩
    rintro ⟨f_129, x_130, x_131, x_132, x_133⟩ H locs ls ⟨hP, hD, hS, hl, hx_130, hx_131⟩ ih_143
    replace hP : va_P (dC, dI) vwCl [(h0, .inr (5, [.ref h1, .ref h2, .ref h3, .ref h4, .int a0, .int x_131, .ref h5, .int a9, .int 1, .int a11, .int x_132, .int x_133])), (h2, .inl (cI, 1601, .inl g1)), (h3, .inl (cI, 1601, .inl g2)), (h4, .inl (cJ, 1601, .inr (.inl g3))), (h5, .inr (6, [.ref h6, .ref h7, .ref h8, .ref h9, .ref h10, .ref h11, .int a5, .int a6, .int a7, .int a8])), (h8, .inl (cI, 9, .inl f_129))] H := hP
    replace hD : va_D A [(h0, .inr (5, [.ref h1, .ref h2, .ref h3, .ref h4, .int a0, .int x_131, .ref h5, .int a9, .int 1, .int a11, .int x_132, .int x_133])), (h2, .inl (cI, 1601, .inl g1)), (h3, .inl (cI, 1601, .inl g2)), (h4, .inl (cJ, 1601, .inr (.inl g3))), (h5, .inr (6, [.ref h6, .ref h7, .ref h8, .ref h9, .ref h10, .ref h11, .int a5, .int a6, .int a7, .int a8])), (h8, .inl (cI, 9, .inl f_129))] := hD
    replace hl : lv_has ls 2 [(1, .int x_130), (0, .ref h0)] := hl
    replace hx_130 : rg (0) (9) x_130 := hx_130
    replace hx_131 : rg (0) (1600) x_131 := hx_131
    refine lv_iload_n hx hb dX5_readBears_22 rfl (lv_at hl 0 rfl) ?_
    refine lv_aload_n hx hb dX5_readBears_23 rfl (lv_at hl 1 rfl) ?_
    refine va_get (D := (dC, dI)) (ci := 5) (v := .ref h5) (C := RX5) (T := TX5) (N := 12) hx hb hts hinX5 hown hK hP 0 rfl rfl 6 (by decide) (hts (.fieldLink RX5 35 "MayRings$Reader" "draft" "LMayRings$Valley;") (List.mem_of_getElem? (i := 2) rfl)) (fun _ h9 => h9) rfl dX5_readBears_24 ?_
    refine va_get (D := (dC, dI)) (ci := 6) (v := .int a5) (C := RX6) (T := TX6) (N := 10) hx hb hts hinX6 hown hK hP 4 rfl rfl 6 (by decide) (hts (.fieldLink RX5 125 "MayRings$Valley" "houses" "I") (List.mem_of_getElem? (i := 3) rfl)) (fun _ h9 => h9) rfl dX5_readBears_27 ?_
    refine lv_icmp_ge (tgt := 56) hx hb dX5_readBears_30 (by decide) (fun c_144 => ?_) (fun c_144 => ?_)
    · skip
      have h_145 : rg (1) (9) x_130 := by have ha := hx_130; have hb_ := h_2; simp only [rg, fa_lt, fa_le, fa_eq] at ha hb_ c_144; simp only [rg]; omega
      have hP9 := hP.sub (ws' := [(h0, .inr (5, [.ref h1, .ref h2, .ref h3, .ref h4, .int a0, .int x_131, .ref h5, .int a9, .int 1, .int a11, .int x_132, .int x_133])), (h2, .inl (cI, 1601, .inl g1)), (h3, .inl (cI, 1601, .inl g2)), (h4, .inl (cJ, 1601, .inr (.inl g3))), (h5, .inr (6, [.ref h6, .ref h7, .ref h8, .ref h9, .ref h10, .ref h11, .int a5, .int a6, .int a7, .int a8])), (h8, .inl (cI, 9, .inl f_129))]) [0, 1, 2, 3, 4, 5] rfl
      have hD9 := hD.sub (ws' := [(h0, .inr (5, [.ref h1, .ref h2, .ref h3, .ref h4, .int a0, .int x_131, .ref h5, .int a9, .int 1, .int a11, .int x_132, .int x_133])), (h2, .inl (cI, 1601, .inl g1)), (h3, .inl (cI, 1601, .inl g2)), (h4, .inl (cJ, 1601, .inr (.inl g3))), (h5, .inr (6, [.ref h6, .ref h7, .ref h8, .ref h9, .ref h10, .ref h11, .int a5, .int a6, .int a7, .int a8])), (h8, .inl (cI, 9, .inl f_129))]) [0, 1, 2, 3, 4, 5] (by decide) rfl
      exact W.vret hx hb hr (fun t ht hW => ⟨⟨(), rfl, trivial, ⟨x_131, x_132, x_133, f_129, (rg_mono hx_131 (by decide) (by decide)), by rw [ht]; exact hP9, hD9⟩⟩, hS.F ht⟩) hS.2.2 dX5_readBears_56
    · skip
      have h_146 : rg (0) (8) x_130 := by have ha := hx_130; have hb_ := h_2; simp only [rg, fa_lt, fa_le, fa_eq] at ha hb_ c_144; simp only [rg]; omega
      refine lv_aload_n hx hb dX5_readBears_33 rfl (lv_at hl 1 rfl) ?_
      refine va_get (D := (dC, dI)) (ci := 5) (v := .ref h5) (C := RX5) (T := TX5) (N := 12) hx hb hts hinX5 hown hK hP 0 rfl rfl 6 (by decide) (hts (.fieldLink RX5 35 "MayRings$Reader" "draft" "LMayRings$Valley;") (List.mem_of_getElem? (i := 2) rfl)) (fun _ h9 => h9) rfl dX5_readBears_34 ?_
      refine va_get (D := (dC, dI)) (ci := 6) (v := .ref h8) (C := RX6) (T := TX6) (N := 10) hx hb hts hinX6 hown hK hP 4 rfl rfl 2 (by decide) (hts (.fieldLink RX5 169 "MayRings$Valley" "bears" "[I") (List.mem_of_getElem? (i := 4) rfl)) (fun _ h9 => h9) rfl dX5_readBears_37 ?_
      refine lv_iload_n hx hb dX5_readBears_40 rfl (lv_at hl 0 rfl) ?_
      refine lv_aload_n hx hb dX5_readBears_41 rfl (lv_at hl 1 rfl) ?_
      refine lv_iconst (v := 0) hx hb dX5_readBears_42 (by decide) ?_
      refine lv_sipush (v := 999) hx hb dX5_readBears_43 (by decide) ?_
      have hPc := hP.sub (ws' := [(h0, .inr (5, [.ref h1, .ref h2, .ref h3, .ref h4, .int a0, .int x_131, .ref h5, .int a9, .int 1, .int a11, .int x_132, .int x_133])), (h2, .inl (cI, 1601, .inl g1)), (h3, .inl (cI, 1601, .inl g2)), (h4, .inl (cJ, 1601, .inr (.inl g3)))]) [0, 1, 2, 3] rfl
      have hDc := hD.sub (ws' := [(h0, .inr (5, [.ref h1, .ref h2, .ref h3, .ref h4, .int a0, .int x_131, .ref h5, .int a9, .int 1, .int a11, .int x_132, .int x_133])), (h2, .inl (cI, 1601, .inl g1)), (h3, .inl (cI, 1601, .inl g2)), (h4, .inl (cJ, 1601, .inr (.inl g3)))]) [0, 1, 2, 3] (by decide) rfl
      have hFc := va_free (wc := [(h0, .inr (5, [.ref h1, .ref h2, .ref h3, .ref h4, .int a0, .int x_131, .ref h5, .int a9, .int 1, .int a11, .int x_132, .int x_133])), (h2, .inl (cI, 1601, .inl g1)), (h3, .inl (cI, 1601, .inl g2)), (h4, .inl (cJ, 1601, .inr (.inl g3)))]) hD hS hA [0, 1, 2, 3] rfl
      refine va_calli (va_runV (As := [.int 0, .int 999]) (rest := [.int x_130, .ref h8]) ⟨hx, hb, hml, hown, hts⟩ (c_s_X5_readNumber l dC dI cB cI cJ cZ cP h0 h1 h2 g1 h3 g2 h4 g3 a0 (rg_mono ha0 (by decide) (by decide)) x_131 (rg_mono hx_131 (by decide) (by decide)) h5 a9 1 a11 x_132 x_133 0 999 H.size) (cwV 2 hts (gd_V (List.mem_of_getElem? (i := 5) rfl) (List.mem_of_getElem? (i := 6) rfl) (List.mem_of_getElem? (i := 7) rfl) (List.mem_of_getElem? (i := 8) rfl) (gd_mono k_s_X5_readNumber (fun _ h => List.mem_cons_of_mem _ (List.mem_append_right _ (List.mem_append_right _ (List.mem_append_right _ (List.mem_append_left _ h))))))) rfl rfl rfl (by decide +kernel) ⟨Nat.le_of_ble_eq_true rfl, Nat.le_of_ble_eq_true rfl⟩) ⟨fun a U g mk q => by obtain ⟨q0, q1, qP, qK, qD⟩ := q; exact ⟨q0, q1, qP, va_K.moved (u := U) (U := U.calling g mk a) (Vm.Alike.refl U.vm) qK, qD⟩, va_recv hK hPc (ci := 5) (q0 := 0) rfl rfl, fun U hU hW => ⟨rfl, by rw [hU], by rw [hU]; exact hPc, va_K.moved hW.alike hK, hDc.weaken (fun _ _ _ _ => trivial)⟩⟩ rfl rfl hl.1 rfl (lv_room (Nat.le_of_ble_eq_true rfl)) dX5_readBears_46 ⟨Nat.le_of_ble_eq_true rfl, Nat.le_of_ble_eq_true rfl⟩) hS (fun q _ h => hFc q h) hFc (fun r_147 u t H1 locs ht hvm hw hB hz1 hk1 hS => ?_)
      obtain ⟨x_148, x_149, x_150, hx_148, hP1, hD1⟩ := hB
      rw [ht] at hP1
      obtain ⟨hP, hD⟩ := va_join (wr := [(h5, .inr (6, [.ref h6, .ref h7, .ref h8, .ref h9, .ref h10, .ref h11, .int a5, .int a6, .int a7, .int a8])), (h8, .inl (cI, 9, .inl f_129))]) (w1 := [(h0, .inr (5, [.ref h1, .ref h2, .ref h3, .ref h4, .int a0, .int x_148, .ref h5, .int a9, .int 1, .int a11, .int x_149, .int x_150])), (h2, .inl (cI, 1601, .inl g1)), (h3, .inl (cI, 1601, .inl g2)), (h4, .inl (cJ, 1601, .inr (.inl g3)))]) hP hD [0, 1, 2, 3] [4, 5] rfl rfl (by decide) (by decide) hk1 hFc hP1 hD1
      generalize H1 = H at hP hS ⊢
      replace hP : va_P (dC, dI) vwCl [(h5, .inr (6, [.ref h6, .ref h7, .ref h8, .ref h9, .ref h10, .ref h11, .int a5, .int a6, .int a7, .int a8])), (h8, .inl (cI, 9, .inl f_129)), (h0, .inr (5, [.ref h1, .ref h2, .ref h3, .ref h4, .int a0, .int x_148, .ref h5, .int a9, .int 1, .int a11, .int x_149, .int x_150])), (h2, .inl (cI, 1601, .inl g1)), (h3, .inl (cI, 1601, .inl g2)), (h4, .inl (cJ, 1601, .inr (.inl g3)))] H := hP
      replace hD : va_D A [(h5, .inr (6, [.ref h6, .ref h7, .ref h8, .ref h9, .ref h10, .ref h11, .int a5, .int a6, .int a7, .int a8])), (h8, .inl (cI, 9, .inl f_129)), (h0, .inr (5, [.ref h1, .ref h2, .ref h3, .ref h4, .int a0, .int x_148, .ref h5, .int a9, .int 1, .int a11, .int x_149, .int x_150])), (h2, .inl (cI, 1601, .inl g1)), (h3, .inl (cI, 1601, .inl g2)), (h4, .inl (cJ, 1601, .inr (.inl g3)))] := hD
      refine va_iast hx hb hK hP hD hS 1 1 rfl rfl (rg_in (n := 9) (rg_mono h_146 (by decide) (by decide))) dX5_readBears_49 (fun H locs hP hD hS => ?_)
      obtain ⟨f_151, ef_151⟩ : ∃ f : Nat → Int32, f = upd f_129 (x_130 : Int32).toNatClampNeg r_147 := ⟨_, rfl⟩
      rw [← ef_151] at hP hD
      clear ef_151
      replace hP : va_P (dC, dI) vwCl [(h5, .inr (6, [.ref h6, .ref h7, .ref h8, .ref h9, .ref h10, .ref h11, .int a5, .int a6, .int a7, .int a8])), (h8, .inl (cI, 9, .inl f_151)), (h0, .inr (5, [.ref h1, .ref h2, .ref h3, .ref h4, .int a0, .int x_148, .ref h5, .int a9, .int 1, .int a11, .int x_149, .int x_150])), (h2, .inl (cI, 1601, .inl g1)), (h3, .inl (cI, 1601, .inl g2)), (h4, .inl (cJ, 1601, .inr (.inl g3)))] H := hP
      replace hD : va_D A [(h5, .inr (6, [.ref h6, .ref h7, .ref h8, .ref h9, .ref h10, .ref h11, .int a5, .int a6, .int a7, .int a8])), (h8, .inl (cI, 9, .inl f_151)), (h0, .inr (5, [.ref h1, .ref h2, .ref h3, .ref h4, .int a0, .int x_148, .ref h5, .int a9, .int 1, .int a11, .int x_149, .int x_150])), (h2, .inl (cI, 1601, .inl g1)), (h3, .inl (cI, 1601, .inl g2)), (h4, .inl (cJ, 1601, .inr (.inl g3)))] := hD
      obtain ⟨x_152, ex_152⟩ : ∃ y : Int32, y = x_130 + Int32.ofInt (1) := ⟨_, rfl⟩
      have hx_152 : rg (1) (9) x_152 := by rw [ex_152]; exact rg_mono (rg_add h_146 (rg_k (x := Int32.ofInt (1)) (c := 1) (by decide)) (by decide) (by decide)) (by decide) (by decide)
      have qx_152 : x_152.toInt = x_130.toInt + (1) := by rw [ex_152]; exact rg_addE h_146 (rg_k (x := Int32.ofInt (1)) (c := 1) (by decide)) (by decide) (by decide) (by decide)
      refine lv_iinc (v := x_152) (lv' := [(1, .int x_152), (0, .ref h0)]) hx hb dX5_readBears_50 hl (k := 0) rfl (ex_152.symm) (by decide) rfl (fun ls hl => ?_)
      clear ex_152
      refine lv_goto (tgt := 22) hx hb dX5_readBears_53 (by decide) ?_
      exact ih_143 (f_151, x_152, x_148, x_149, x_150) H locs ls ⟨hP.sub (ws' := [(h0, .inr (5, [.ref h1, .ref h2, .ref h3, .ref h4, .int a0, .int x_148, .ref h5, .int a9, .int 1, .int a11, .int x_149, .int x_150])), (h2, .inl (cI, 1601, .inl g1)), (h3, .inl (cI, 1601, .inl g2)), (h4, .inl (cJ, 1601, .inr (.inl g3))), (h5, .inr (6, [.ref h6, .ref h7, .ref h8, .ref h9, .ref h10, .ref h11, .int a5, .int a6, .int a7, .int a8])), (h8, .inl (cI, 9, .inl f_151))]) [2, 3, 4, 5, 0, 1] rfl, hD.sub (ws' := [(h0, .inr (5, [.ref h1, .ref h2, .ref h3, .ref h4, .int a0, .int x_148, .ref h5, .int a9, .int 1, .int a11, .int x_149, .int x_150])), (h2, .inl (cI, 1601, .inl g1)), (h3, .inl (cI, 1601, .inl g2)), (h4, .inl (cJ, 1601, .inr (.inl g3))), (h5, .inr (6, [.ref h6, .ref h7, .ref h8, .ref h9, .ref h10, .ref h11, .int a5, .int a6, .int a7, .int a8])), (h8, .inl (cI, 9, .inl f_151))]) [2, 3, 4, 5, 0, 1] (by decide) rfl, hS, lv_sub hl [0, 1] rfl, (rg_mono hx_152 (by decide) (by decide)), (rg_mono hx_148 (by decide) (by decide))⟩ (by show ((9) - x_152.toInt).toNat < ((9) - x_130.toInt).toNat; have ha := h_146; simp only [rg] at ha; omega)
  · skip
    have h_153 : rg (0) (0) a5 := by have ha := ha5; have hb_ := (rg_k (x := 0) (c := 0) (by decide)); simp only [rg, fa_lt, fa_le, fa_eq, (by decide : (0 : Int32).toInt = 0)] at ha hb_ c_1; simp only [rg]; omega
    refine lv_aload_n hx hb dX5_readBears_15 rfl (lv_at hl 0 rfl) ?_
    refine lv_iconst (v := 2) hx hb dX5_readBears_16 (by decide) ?_
    have hPc := hP.sub (ws' := [(h0, .inr (5, [.ref h1, .ref h2, .ref h3, .ref h4, .int a0, .int a1, .ref h5, .int a9, .int 1, .int a11, .int a12, .int a13])), (h2, .inl (cI, 1601, .inl g1)), (h3, .inl (cI, 1601, .inl g2))]) [0, 1, 2] rfl
    have hDc := hD.sub (ws' := [(h0, .inr (5, [.ref h1, .ref h2, .ref h3, .ref h4, .int a0, .int a1, .ref h5, .int a9, .int 1, .int a11, .int a12, .int a13])), (h2, .inl (cI, 1601, .inl g1)), (h3, .inl (cI, 1601, .inl g2))]) [0, 1, 2] (by decide) rfl
    have hFc := va_free (wc := [(h0, .inr (5, [.ref h1, .ref h2, .ref h3, .ref h4, .int a0, .int a1, .ref h5, .int a9, .int 1, .int a11, .int a12, .int a13])), (h2, .inl (cI, 1601, .inl g1)), (h3, .inl (cI, 1601, .inl g2))]) hD hS hA [0, 1, 2] rfl
    refine va_callv (va_runV (As := [.int 2]) (rest := []) ⟨hx, hb, hml, hown, hts⟩ (c_s_X5_refuse l dC dI cB cI cJ cZ cP h0 h1 h2 g1 h3 g2 h4 a0 a1 (rg_mono ha1 (by decide) (by decide)) h5 a9 1 a11 a12 a13 2 H.size) (cwV 1 hts (gd_V (List.mem_of_getElem? (i := 9) rfl) (List.mem_of_getElem? (i := 10) rfl) (List.mem_of_getElem? (i := 11) rfl) (List.mem_of_getElem? (i := 8) rfl) (gd_mono k_s_X5_refuse (fun _ h => List.mem_cons_of_mem _ (List.mem_append_right _ (List.mem_append_right _ (List.mem_append_right _ (List.mem_append_right _ (List.mem_append_left _ h)))))))) rfl rfl rfl (by decide +kernel) ⟨Nat.le_of_ble_eq_true rfl, Nat.le_of_ble_eq_true rfl⟩) ⟨fun a U g mk q => by obtain ⟨q0, q1, qP, qK, qD⟩ := q; exact ⟨q0, q1, qP, va_K.moved (u := U) (U := U.calling g mk a) (Vm.Alike.refl U.vm) qK, qD⟩, va_recv hK hPc (ci := 5) (q0 := 0) rfl rfl, fun U hU hW => ⟨rfl, by rw [hU], by rw [hU]; exact hPc, va_K.moved hW.alike hK, hDc.weaken (fun _ _ _ _ => trivial)⟩⟩ rfl rfl hl.1 rfl (lv_room (Nat.le_of_ble_eq_true rfl)) dX5_readBears_17 ⟨Nat.le_of_ble_eq_true rfl, Nat.le_of_ble_eq_true rfl⟩) hS (fun q _ h => hFc q h) hFc (fun u t H1 locs ht hvm hw hB hz1 hk1 hS => ?_)
    obtain ⟨x_155, x_156, hP1, hD1⟩ := hB
    rw [ht] at hP1
    obtain ⟨hP, hD⟩ := va_join (wr := [(h4, .inl (cJ, 1601, .inr (.inl g3))), (h5, .inr (6, [.ref h6, .ref h7, .ref h8, .ref h9, .ref h10, .ref h11, .int a5, .int a6, .int a7, .int a8])), (h8, .inl (cI, 9, .inl g6))]) (w1 := [(h0, .inr (5, [.ref h1, .ref h2, .ref h3, .ref h4, .int a0, .int a1, .ref h5, .int a9, .int 1, .int a11, .int x_155, .int x_156])), (h2, .inl (cI, 1601, .inl g1)), (h3, .inl (cI, 1601, .inl g2))]) hP hD [0, 1, 2] [3, 4, 5] rfl rfl (by decide) (by decide) hk1 hFc hP1 hD1
    generalize H1 = H at hP hS ⊢
    replace hP : va_P (dC, dI) vwCl [(h4, .inl (cJ, 1601, .inr (.inl g3))), (h5, .inr (6, [.ref h6, .ref h7, .ref h8, .ref h9, .ref h10, .ref h11, .int a5, .int a6, .int a7, .int a8])), (h8, .inl (cI, 9, .inl g6)), (h0, .inr (5, [.ref h1, .ref h2, .ref h3, .ref h4, .int a0, .int a1, .ref h5, .int a9, .int 1, .int a11, .int x_155, .int x_156])), (h2, .inl (cI, 1601, .inl g1)), (h3, .inl (cI, 1601, .inl g2))] H := hP
    replace hD : va_D A [(h4, .inl (cJ, 1601, .inr (.inl g3))), (h5, .inr (6, [.ref h6, .ref h7, .ref h8, .ref h9, .ref h10, .ref h11, .int a5, .int a6, .int a7, .int a8])), (h8, .inl (cI, 9, .inl g6)), (h0, .inr (5, [.ref h1, .ref h2, .ref h3, .ref h4, .int a0, .int a1, .ref h5, .int a9, .int 1, .int a11, .int x_155, .int x_156])), (h2, .inl (cI, 1601, .inl g1)), (h3, .inl (cI, 1601, .inl g2))] := hD
    refine lv_iconst (v := 0) hx hb dX5_readBears_20 (by decide) ?_
    refine lv_istore_n (lv' := [(1, .int 0), (0, .ref h0)]) hx hb dX5_readBears_21 rfl hl (by decide) rfl (fun ls hl => ?_)
    refine lv_iload_n hx hb dX5_readBears_22 rfl (lv_at hl 0 rfl) ?_
    refine lv_aload_n hx hb dX5_readBears_23 rfl (lv_at hl 1 rfl) ?_
    refine va_get (D := (dC, dI)) (ci := 5) (v := .ref h5) (C := RX5) (T := TX5) (N := 12) hx hb hts hinX5 hown hK hP 3 rfl rfl 6 (by decide) (hts (.fieldLink RX5 35 "MayRings$Reader" "draft" "LMayRings$Valley;") (List.mem_of_getElem? (i := 2) rfl)) (fun _ h9 => h9) rfl dX5_readBears_24 ?_
    refine va_get (D := (dC, dI)) (ci := 6) (v := .int a5) (C := RX6) (T := TX6) (N := 10) hx hb hts hinX6 hown hK hP 1 rfl rfl 6 (by decide) (hts (.fieldLink RX5 125 "MayRings$Valley" "houses" "I") (List.mem_of_getElem? (i := 3) rfl)) (fun _ h9 => h9) rfl dX5_readBears_27 ?_
    refine lv_icmp_ge (tgt := 56) hx hb dX5_readBears_30 (by decide) (fun c_158 => ?_) (fun c_158 => ?_)
    · skip
      have hP9 := hP.sub (ws' := [(h0, .inr (5, [.ref h1, .ref h2, .ref h3, .ref h4, .int a0, .int a1, .ref h5, .int a9, .int 1, .int a11, .int x_155, .int x_156])), (h2, .inl (cI, 1601, .inl g1)), (h3, .inl (cI, 1601, .inl g2)), (h4, .inl (cJ, 1601, .inr (.inl g3))), (h5, .inr (6, [.ref h6, .ref h7, .ref h8, .ref h9, .ref h10, .ref h11, .int a5, .int a6, .int a7, .int a8])), (h8, .inl (cI, 9, .inl g6))]) [3, 4, 5, 0, 1, 2] rfl
      have hD9 := hD.sub (ws' := [(h0, .inr (5, [.ref h1, .ref h2, .ref h3, .ref h4, .int a0, .int a1, .ref h5, .int a9, .int 1, .int a11, .int x_155, .int x_156])), (h2, .inl (cI, 1601, .inl g1)), (h3, .inl (cI, 1601, .inl g2)), (h4, .inl (cJ, 1601, .inr (.inl g3))), (h5, .inr (6, [.ref h6, .ref h7, .ref h8, .ref h9, .ref h10, .ref h11, .int a5, .int a6, .int a7, .int a8])), (h8, .inl (cI, 9, .inl g6))]) [3, 4, 5, 0, 1, 2] (by decide) rfl
      exact W.vret hx hb hr (fun t ht hW => ⟨⟨(), rfl, trivial, ⟨a1, x_155, x_156, g6, (rg_mono ha1 (by decide) (by decide)), by rw [ht]; exact hP9, hD9⟩⟩, hS.F ht⟩) hS.2.2 dX5_readBears_56
    · skip
      exfalso; have ha := (rg_k (x := 0) (c := 0) (by decide)); have hb_ := h_153; simp only [rg, fa_lt, fa_le, fa_eq, (by decide : (0 : Int32).toInt = 0)] at ha hb_ c_158; omega
def v_s_X5_levelOf : List Cond := Cond.code yX5_levelOf cX5_levelOf 1 (some .int) :: ([] ++ ([]))
theorem k_s_X5_levelOf : GoodIn lw_tbl v_s_X5_levelOf := gd_c (List.mem_of_getElem? (i := 776) (by decide +kernel)) rfl (goodIn_app (gd_nil) (gd_nil))
set_option maxHeartbeats 2000000 in
set_option maxRecDepth 100000 in
theorem c_s_X5_levelOf (l : Launch) (dC : Nat → ClassId) (dI : Nat → Nat → Nat) (cB cI cJ cZ cP : ClassId) (p0 : Int32) (sz : Nat) : Met l yX5_levelOf v_s_X5_levelOf ({ frames := 0, cells := 0, slots := 0, locals := 0 }) (va_Pc [.int p0] (fun U => U.heap.size = sz ∧ va_P (dC, dI) vwCl [] U.heap ∧ va_K (dC, dI) vwCl (ty5 cB cI cJ cZ cP) U ∧ va_D (fun _ => True) [])) (va_Qi (fun (r : Int32) (u9 : Unit) => rg (-1) (4) r) (fun u9 t => va_P (dC, dI) vwCl [] t.heap ∧ va_D (va_A [] sz) []) (va_A [] sz)) 0 0 (va_A [] sz) := by
  refine Met.ofW (cc := cX5_levelOf) (maxL := 1) (ret := (some .int)) (by decide) rfl ?_
  intro p e s m args below meth c s₁ B hml hv
  obtain ⟨rfl, hsz, hP, hK, hD0⟩ := hv
  have hx := B.exec
  have hb := B.bytes
  have hr := B.returns
  have hts := atoms_spec (ws := v_s_X5_levelOf) B.pre
  have hown : s.vm.findClass RX5 = some m.cls := findClass_of_methodNamed B.named
  have hlocks := B.notSynchronized
  subst hsz
  have hD := hD0.self (sz := s.heap.size)
  generalize hAe : va_A [] s.heap.size = A at hD ⊢
  have hA : ∀ q : Nat, s.heap.size ≤ q → A q := fun q h => by rw [← hAe]; exact Or.inr h
  have hP : va_P (dC, dI) vwCl [] s.heap := hP
  have hl := lv_entry ([.int p0]) (n := 1) (Nat.le_of_ble_eq_true rfl)
  rw [lg_entry_eq]
  generalize (lg_sl ([.int p0]) ++ List.replicate (1 - (lg_sl ([.int p0])).length) Slot.unset).toArray = ls at hl ⊢
  have hl : lv_has ls 1 [(0, .int p0)] := hl
  refine W_gen (A := A) hP (fun H locs hP hS => ?_)
  refine lv_iload_n hx hb dX5_levelOf_0 rfl (lv_at hl 0 rfl) ?_
  by_cases c_1 : p0 = 9
  · skip
    refine tp_v (.int 9) (congrArg Value.int (c_1)) ?_
    refine lv_tableIn (off := 91) (tgt := 92) hx hb dX5_levelOf_1 (by decide) (by decide) (by decide) (by decide) ?_
    have h_2 : rg (9) (9) p0 := by have ha := (rg_any p0); have hb_ := (rg_k (x := 9) (c := 9) (by decide)); simp only [rg, fa_lt, fa_le, fa_eq, (by decide : (9 : Int32).toInt = 9)] at ha hb_ c_1; simp only [rg]; omega
    refine lv_iconst (v := 0) hx hb dX5_levelOf_92 (by decide) ?_
    have hP9 := hP.sub (ws' := []) [] rfl
    have hD9 := hD.sub (ws' := []) [] (by decide) rfl
    exact W.iret (v := 0) hx hb hr (fun t ht hW => ⟨⟨0, (), rfl, (rg_mono (rg_k (x := 0) (c := 0) (by decide)) (by decide) (by decide)), ⟨by rw [ht]; exact hP9, hD9⟩⟩, hS.F ht⟩) hS.2.2 dX5_levelOf_93
  by_cases c_3 : p0 = 10
  · skip
    refine tp_v (.int 10) (congrArg Value.int (c_3)) ?_
    refine lv_tableIn (off := 93) (tgt := 94) hx hb dX5_levelOf_1 (by decide) (by decide) (by decide) (by decide) ?_
    have h_4 : rg (10) (10) p0 := by have ha := (rg_any p0); have hb_ := (rg_k (x := 10) (c := 10) (by decide)); simp only [rg, fa_lt, fa_le, fa_eq, (by decide : (10 : Int32).toInt = 10)] at ha hb_ c_3; simp only [rg]; omega
    refine lv_iconst (v := 1) hx hb dX5_levelOf_94 (by decide) ?_
    have hP9 := hP.sub (ws' := []) [] rfl
    have hD9 := hD.sub (ws' := []) [] (by decide) rfl
    exact W.iret (v := 1) hx hb hr (fun t ht hW => ⟨⟨1, (), rfl, (rg_mono (rg_k (x := 1) (c := 1) (by decide)) (by decide) (by decide)), ⟨by rw [ht]; exact hP9, hD9⟩⟩, hS.F ht⟩) hS.2.2 dX5_levelOf_95
  by_cases c_5 : p0 = 11
  · skip
    refine tp_v (.int 11) (congrArg Value.int (c_5)) ?_
    refine lv_tableIn (off := 101) (tgt := 102) hx hb dX5_levelOf_1 (by decide) (by decide) (by decide) (by decide) ?_
    have h_6 : rg (11) (11) p0 := by have ha := (rg_any p0); have hb_ := (rg_k (x := 11) (c := 11) (by decide)); simp only [rg, fa_lt, fa_le, fa_eq, (by decide : (11 : Int32).toInt = 11)] at ha hb_ c_5; simp only [rg]; omega
    refine lv_iconst (v := (-1)) hx hb dX5_levelOf_102 (by decide) ?_
    have hP9 := hP.sub (ws' := []) [] rfl
    have hD9 := hD.sub (ws' := []) [] (by decide) rfl
    exact W.iret (v := (-1)) hx hb hr (fun t ht hW => ⟨⟨(-1), (), rfl, (rg_mono (rg_k (x := (-1)) (c := -1) (by decide)) (by decide) (by decide)), ⟨by rw [ht]; exact hP9, hD9⟩⟩, hS.F ht⟩) hS.2.2 dX5_levelOf_103
  by_cases c_7 : p0 = 12
  · skip
    refine tp_v (.int 12) (congrArg Value.int (c_7)) ?_
    refine lv_tableIn (off := 101) (tgt := 102) hx hb dX5_levelOf_1 (by decide) (by decide) (by decide) (by decide) ?_
    have h_8 : rg (12) (12) p0 := by have ha := (rg_any p0); have hb_ := (rg_k (x := 12) (c := 12) (by decide)); simp only [rg, fa_lt, fa_le, fa_eq, (by decide : (12 : Int32).toInt = 12)] at ha hb_ c_7; simp only [rg]; omega
    refine lv_iconst (v := (-1)) hx hb dX5_levelOf_102 (by decide) ?_
    have hP9 := hP.sub (ws' := []) [] rfl
    have hD9 := hD.sub (ws' := []) [] (by decide) rfl
    exact W.iret (v := (-1)) hx hb hr (fun t ht hW => ⟨⟨(-1), (), rfl, (rg_mono (rg_k (x := (-1)) (c := -1) (by decide)) (by decide) (by decide)), ⟨by rw [ht]; exact hP9, hD9⟩⟩, hS.F ht⟩) hS.2.2 dX5_levelOf_103
  by_cases c_9 : p0 = 13
  · skip
    refine tp_v (.int 13) (congrArg Value.int (c_9)) ?_
    refine lv_tableIn (off := 101) (tgt := 102) hx hb dX5_levelOf_1 (by decide) (by decide) (by decide) (by decide) ?_
    have h_10 : rg (13) (13) p0 := by have ha := (rg_any p0); have hb_ := (rg_k (x := 13) (c := 13) (by decide)); simp only [rg, fa_lt, fa_le, fa_eq, (by decide : (13 : Int32).toInt = 13)] at ha hb_ c_9; simp only [rg]; omega
    refine lv_iconst (v := (-1)) hx hb dX5_levelOf_102 (by decide) ?_
    have hP9 := hP.sub (ws' := []) [] rfl
    have hD9 := hD.sub (ws' := []) [] (by decide) rfl
    exact W.iret (v := (-1)) hx hb hr (fun t ht hW => ⟨⟨(-1), (), rfl, (rg_mono (rg_k (x := (-1)) (c := -1) (by decide)) (by decide) (by decide)), ⟨by rw [ht]; exact hP9, hD9⟩⟩, hS.F ht⟩) hS.2.2 dX5_levelOf_103
  by_cases c_11 : p0 = 14
  · skip
    refine tp_v (.int 14) (congrArg Value.int (c_11)) ?_
    refine lv_tableIn (off := 101) (tgt := 102) hx hb dX5_levelOf_1 (by decide) (by decide) (by decide) (by decide) ?_
    have h_12 : rg (14) (14) p0 := by have ha := (rg_any p0); have hb_ := (rg_k (x := 14) (c := 14) (by decide)); simp only [rg, fa_lt, fa_le, fa_eq, (by decide : (14 : Int32).toInt = 14)] at ha hb_ c_11; simp only [rg]; omega
    refine lv_iconst (v := (-1)) hx hb dX5_levelOf_102 (by decide) ?_
    have hP9 := hP.sub (ws' := []) [] rfl
    have hD9 := hD.sub (ws' := []) [] (by decide) rfl
    exact W.iret (v := (-1)) hx hb hr (fun t ht hW => ⟨⟨(-1), (), rfl, (rg_mono (rg_k (x := (-1)) (c := -1) (by decide)) (by decide) (by decide)), ⟨by rw [ht]; exact hP9, hD9⟩⟩, hS.F ht⟩) hS.2.2 dX5_levelOf_103
  by_cases c_13 : p0 = 15
  · skip
    refine tp_v (.int 15) (congrArg Value.int (c_13)) ?_
    refine lv_tableIn (off := 101) (tgt := 102) hx hb dX5_levelOf_1 (by decide) (by decide) (by decide) (by decide) ?_
    have h_14 : rg (15) (15) p0 := by have ha := (rg_any p0); have hb_ := (rg_k (x := 15) (c := 15) (by decide)); simp only [rg, fa_lt, fa_le, fa_eq, (by decide : (15 : Int32).toInt = 15)] at ha hb_ c_13; simp only [rg]; omega
    refine lv_iconst (v := (-1)) hx hb dX5_levelOf_102 (by decide) ?_
    have hP9 := hP.sub (ws' := []) [] rfl
    have hD9 := hD.sub (ws' := []) [] (by decide) rfl
    exact W.iret (v := (-1)) hx hb hr (fun t ht hW => ⟨⟨(-1), (), rfl, (rg_mono (rg_k (x := (-1)) (c := -1) (by decide)) (by decide) (by decide)), ⟨by rw [ht]; exact hP9, hD9⟩⟩, hS.F ht⟩) hS.2.2 dX5_levelOf_103
  by_cases c_15 : p0 = 16
  · skip
    refine tp_v (.int 16) (congrArg Value.int (c_15)) ?_
    refine lv_tableIn (off := 101) (tgt := 102) hx hb dX5_levelOf_1 (by decide) (by decide) (by decide) (by decide) ?_
    have h_16 : rg (16) (16) p0 := by have ha := (rg_any p0); have hb_ := (rg_k (x := 16) (c := 16) (by decide)); simp only [rg, fa_lt, fa_le, fa_eq, (by decide : (16 : Int32).toInt = 16)] at ha hb_ c_15; simp only [rg]; omega
    refine lv_iconst (v := (-1)) hx hb dX5_levelOf_102 (by decide) ?_
    have hP9 := hP.sub (ws' := []) [] rfl
    have hD9 := hD.sub (ws' := []) [] (by decide) rfl
    exact W.iret (v := (-1)) hx hb hr (fun t ht hW => ⟨⟨(-1), (), rfl, (rg_mono (rg_k (x := (-1)) (c := -1) (by decide)) (by decide) (by decide)), ⟨by rw [ht]; exact hP9, hD9⟩⟩, hS.F ht⟩) hS.2.2 dX5_levelOf_103
  by_cases c_17 : p0 = 17
  · skip
    refine tp_v (.int 17) (congrArg Value.int (c_17)) ?_
    refine lv_tableIn (off := 101) (tgt := 102) hx hb dX5_levelOf_1 (by decide) (by decide) (by decide) (by decide) ?_
    have h_18 : rg (17) (17) p0 := by have ha := (rg_any p0); have hb_ := (rg_k (x := 17) (c := 17) (by decide)); simp only [rg, fa_lt, fa_le, fa_eq, (by decide : (17 : Int32).toInt = 17)] at ha hb_ c_17; simp only [rg]; omega
    refine lv_iconst (v := (-1)) hx hb dX5_levelOf_102 (by decide) ?_
    have hP9 := hP.sub (ws' := []) [] rfl
    have hD9 := hD.sub (ws' := []) [] (by decide) rfl
    exact W.iret (v := (-1)) hx hb hr (fun t ht hW => ⟨⟨(-1), (), rfl, (rg_mono (rg_k (x := (-1)) (c := -1) (by decide)) (by decide) (by decide)), ⟨by rw [ht]; exact hP9, hD9⟩⟩, hS.F ht⟩) hS.2.2 dX5_levelOf_103
  by_cases c_19 : p0 = 18
  · skip
    refine tp_v (.int 18) (congrArg Value.int (c_19)) ?_
    refine lv_tableIn (off := 101) (tgt := 102) hx hb dX5_levelOf_1 (by decide) (by decide) (by decide) (by decide) ?_
    have h_20 : rg (18) (18) p0 := by have ha := (rg_any p0); have hb_ := (rg_k (x := 18) (c := 18) (by decide)); simp only [rg, fa_lt, fa_le, fa_eq, (by decide : (18 : Int32).toInt = 18)] at ha hb_ c_19; simp only [rg]; omega
    refine lv_iconst (v := (-1)) hx hb dX5_levelOf_102 (by decide) ?_
    have hP9 := hP.sub (ws' := []) [] rfl
    have hD9 := hD.sub (ws' := []) [] (by decide) rfl
    exact W.iret (v := (-1)) hx hb hr (fun t ht hW => ⟨⟨(-1), (), rfl, (rg_mono (rg_k (x := (-1)) (c := -1) (by decide)) (by decide) (by decide)), ⟨by rw [ht]; exact hP9, hD9⟩⟩, hS.F ht⟩) hS.2.2 dX5_levelOf_103
  by_cases c_21 : p0 = 19
  · skip
    refine tp_v (.int 19) (congrArg Value.int (c_21)) ?_
    refine lv_tableIn (off := 101) (tgt := 102) hx hb dX5_levelOf_1 (by decide) (by decide) (by decide) (by decide) ?_
    have h_22 : rg (19) (19) p0 := by have ha := (rg_any p0); have hb_ := (rg_k (x := 19) (c := 19) (by decide)); simp only [rg, fa_lt, fa_le, fa_eq, (by decide : (19 : Int32).toInt = 19)] at ha hb_ c_21; simp only [rg]; omega
    refine lv_iconst (v := (-1)) hx hb dX5_levelOf_102 (by decide) ?_
    have hP9 := hP.sub (ws' := []) [] rfl
    have hD9 := hD.sub (ws' := []) [] (by decide) rfl
    exact W.iret (v := (-1)) hx hb hr (fun t ht hW => ⟨⟨(-1), (), rfl, (rg_mono (rg_k (x := (-1)) (c := -1) (by decide)) (by decide) (by decide)), ⟨by rw [ht]; exact hP9, hD9⟩⟩, hS.F ht⟩) hS.2.2 dX5_levelOf_103
  by_cases c_23 : p0 = 20
  · skip
    refine tp_v (.int 20) (congrArg Value.int (c_23)) ?_
    refine lv_tableIn (off := 101) (tgt := 102) hx hb dX5_levelOf_1 (by decide) (by decide) (by decide) (by decide) ?_
    have h_24 : rg (20) (20) p0 := by have ha := (rg_any p0); have hb_ := (rg_k (x := 20) (c := 20) (by decide)); simp only [rg, fa_lt, fa_le, fa_eq, (by decide : (20 : Int32).toInt = 20)] at ha hb_ c_23; simp only [rg]; omega
    refine lv_iconst (v := (-1)) hx hb dX5_levelOf_102 (by decide) ?_
    have hP9 := hP.sub (ws' := []) [] rfl
    have hD9 := hD.sub (ws' := []) [] (by decide) rfl
    exact W.iret (v := (-1)) hx hb hr (fun t ht hW => ⟨⟨(-1), (), rfl, (rg_mono (rg_k (x := (-1)) (c := -1) (by decide)) (by decide) (by decide)), ⟨by rw [ht]; exact hP9, hD9⟩⟩, hS.F ht⟩) hS.2.2 dX5_levelOf_103
  by_cases c_25 : p0 = 21
  · skip
    refine tp_v (.int 21) (congrArg Value.int (c_25)) ?_
    refine lv_tableIn (off := 95) (tgt := 96) hx hb dX5_levelOf_1 (by decide) (by decide) (by decide) (by decide) ?_
    have h_26 : rg (21) (21) p0 := by have ha := (rg_any p0); have hb_ := (rg_k (x := 21) (c := 21) (by decide)); simp only [rg, fa_lt, fa_le, fa_eq, (by decide : (21 : Int32).toInt = 21)] at ha hb_ c_25; simp only [rg]; omega
    refine lv_iconst (v := 2) hx hb dX5_levelOf_96 (by decide) ?_
    have hP9 := hP.sub (ws' := []) [] rfl
    have hD9 := hD.sub (ws' := []) [] (by decide) rfl
    exact W.iret (v := 2) hx hb hr (fun t ht hW => ⟨⟨2, (), rfl, (rg_mono (rg_k (x := 2) (c := 2) (by decide)) (by decide) (by decide)), ⟨by rw [ht]; exact hP9, hD9⟩⟩, hS.F ht⟩) hS.2.2 dX5_levelOf_97
  by_cases c_27 : p0 = 22
  · skip
    refine tp_v (.int 22) (congrArg Value.int (c_27)) ?_
    refine lv_tableIn (off := 95) (tgt := 96) hx hb dX5_levelOf_1 (by decide) (by decide) (by decide) (by decide) ?_
    have h_28 : rg (22) (22) p0 := by have ha := (rg_any p0); have hb_ := (rg_k (x := 22) (c := 22) (by decide)); simp only [rg, fa_lt, fa_le, fa_eq, (by decide : (22 : Int32).toInt = 22)] at ha hb_ c_27; simp only [rg]; omega
    refine lv_iconst (v := 2) hx hb dX5_levelOf_96 (by decide) ?_
    have hP9 := hP.sub (ws' := []) [] rfl
    have hD9 := hD.sub (ws' := []) [] (by decide) rfl
    exact W.iret (v := 2) hx hb hr (fun t ht hW => ⟨⟨2, (), rfl, (rg_mono (rg_k (x := 2) (c := 2) (by decide)) (by decide) (by decide)), ⟨by rw [ht]; exact hP9, hD9⟩⟩, hS.F ht⟩) hS.2.2 dX5_levelOf_97
  by_cases c_29 : p0 = 23
  · skip
    refine tp_v (.int 23) (congrArg Value.int (c_29)) ?_
    refine lv_tableIn (off := 95) (tgt := 96) hx hb dX5_levelOf_1 (by decide) (by decide) (by decide) (by decide) ?_
    have h_30 : rg (23) (23) p0 := by have ha := (rg_any p0); have hb_ := (rg_k (x := 23) (c := 23) (by decide)); simp only [rg, fa_lt, fa_le, fa_eq, (by decide : (23 : Int32).toInt = 23)] at ha hb_ c_29; simp only [rg]; omega
    refine lv_iconst (v := 2) hx hb dX5_levelOf_96 (by decide) ?_
    have hP9 := hP.sub (ws' := []) [] rfl
    have hD9 := hD.sub (ws' := []) [] (by decide) rfl
    exact W.iret (v := 2) hx hb hr (fun t ht hW => ⟨⟨2, (), rfl, (rg_mono (rg_k (x := 2) (c := 2) (by decide)) (by decide) (by decide)), ⟨by rw [ht]; exact hP9, hD9⟩⟩, hS.F ht⟩) hS.2.2 dX5_levelOf_97
  by_cases c_31 : p0 = 24
  · skip
    refine tp_v (.int 24) (congrArg Value.int (c_31)) ?_
    refine lv_tableIn (off := 97) (tgt := 98) hx hb dX5_levelOf_1 (by decide) (by decide) (by decide) (by decide) ?_
    have h_32 : rg (24) (24) p0 := by have ha := (rg_any p0); have hb_ := (rg_k (x := 24) (c := 24) (by decide)); simp only [rg, fa_lt, fa_le, fa_eq, (by decide : (24 : Int32).toInt = 24)] at ha hb_ c_31; simp only [rg]; omega
    refine lv_iconst (v := 3) hx hb dX5_levelOf_98 (by decide) ?_
    have hP9 := hP.sub (ws' := []) [] rfl
    have hD9 := hD.sub (ws' := []) [] (by decide) rfl
    exact W.iret (v := 3) hx hb hr (fun t ht hW => ⟨⟨3, (), rfl, (rg_mono (rg_k (x := 3) (c := 3) (by decide)) (by decide) (by decide)), ⟨by rw [ht]; exact hP9, hD9⟩⟩, hS.F ht⟩) hS.2.2 dX5_levelOf_99
  by_cases c_33 : p0 = 25
  · skip
    refine tp_v (.int 25) (congrArg Value.int (c_33)) ?_
    refine lv_tableIn (off := 97) (tgt := 98) hx hb dX5_levelOf_1 (by decide) (by decide) (by decide) (by decide) ?_
    have h_34 : rg (25) (25) p0 := by have ha := (rg_any p0); have hb_ := (rg_k (x := 25) (c := 25) (by decide)); simp only [rg, fa_lt, fa_le, fa_eq, (by decide : (25 : Int32).toInt = 25)] at ha hb_ c_33; simp only [rg]; omega
    refine lv_iconst (v := 3) hx hb dX5_levelOf_98 (by decide) ?_
    have hP9 := hP.sub (ws' := []) [] rfl
    have hD9 := hD.sub (ws' := []) [] (by decide) rfl
    exact W.iret (v := 3) hx hb hr (fun t ht hW => ⟨⟨3, (), rfl, (rg_mono (rg_k (x := 3) (c := 3) (by decide)) (by decide) (by decide)), ⟨by rw [ht]; exact hP9, hD9⟩⟩, hS.F ht⟩) hS.2.2 dX5_levelOf_99
  by_cases c_35 : p0 = 26
  · skip
    refine tp_v (.int 26) (congrArg Value.int (c_35)) ?_
    refine lv_tableIn (off := 99) (tgt := 100) hx hb dX5_levelOf_1 (by decide) (by decide) (by decide) (by decide) ?_
    have h_36 : rg (26) (26) p0 := by have ha := (rg_any p0); have hb_ := (rg_k (x := 26) (c := 26) (by decide)); simp only [rg, fa_lt, fa_le, fa_eq, (by decide : (26 : Int32).toInt = 26)] at ha hb_ c_35; simp only [rg]; omega
    refine lv_iconst (v := 4) hx hb dX5_levelOf_100 (by decide) ?_
    have hP9 := hP.sub (ws' := []) [] rfl
    have hD9 := hD.sub (ws' := []) [] (by decide) rfl
    exact W.iret (v := 4) hx hb hr (fun t ht hW => ⟨⟨4, (), rfl, (rg_mono (rg_k (x := 4) (c := 4) (by decide)) (by decide) (by decide)), ⟨by rw [ht]; exact hP9, hD9⟩⟩, hS.F ht⟩) hS.2.2 dX5_levelOf_101
  by_cases c_37 : p0 = 27
  · skip
    refine tp_v (.int 27) (congrArg Value.int (c_37)) ?_
    refine lv_tableIn (off := 99) (tgt := 100) hx hb dX5_levelOf_1 (by decide) (by decide) (by decide) (by decide) ?_
    have h_38 : rg (27) (27) p0 := by have ha := (rg_any p0); have hb_ := (rg_k (x := 27) (c := 27) (by decide)); simp only [rg, fa_lt, fa_le, fa_eq, (by decide : (27 : Int32).toInt = 27)] at ha hb_ c_37; simp only [rg]; omega
    refine lv_iconst (v := 4) hx hb dX5_levelOf_100 (by decide) ?_
    have hP9 := hP.sub (ws' := []) [] rfl
    have hD9 := hD.sub (ws' := []) [] (by decide) rfl
    exact W.iret (v := 4) hx hb hr (fun t ht hW => ⟨⟨4, (), rfl, (rg_mono (rg_k (x := 4) (c := 4) (by decide)) (by decide) (by decide)), ⟨by rw [ht]; exact hP9, hD9⟩⟩, hS.F ht⟩) hS.2.2 dX5_levelOf_101
  refine lv_tableOut (tgt := 102) hx hb dX5_levelOf_1 (by have ha := (rg_any p0); simp only [rg, fa_eq, (by decide : (9 : Int32).toInt = 9), (by decide : (10 : Int32).toInt = 10), (by decide : (11 : Int32).toInt = 11), (by decide : (12 : Int32).toInt = 12), (by decide : (13 : Int32).toInt = 13), (by decide : (14 : Int32).toInt = 14), (by decide : (15 : Int32).toInt = 15), (by decide : (16 : Int32).toInt = 16), (by decide : (17 : Int32).toInt = 17), (by decide : (18 : Int32).toInt = 18), (by decide : (19 : Int32).toInt = 19), (by decide : (20 : Int32).toInt = 20), (by decide : (21 : Int32).toInt = 21), (by decide : (22 : Int32).toInt = 22), (by decide : (23 : Int32).toInt = 23), (by decide : (24 : Int32).toInt = 24), (by decide : (25 : Int32).toInt = 25), (by decide : (26 : Int32).toInt = 26), (by decide : (27 : Int32).toInt = 27)] at ha c_1 c_3 c_5 c_7 c_9 c_11 c_13 c_15 c_17 c_19 c_21 c_23 c_25 c_27 c_29 c_31 c_33 c_35 c_37; omega) (by decide) ?_
  refine lv_iconst (v := (-1)) hx hb dX5_levelOf_102 (by decide) ?_
  have hP9 := hP.sub (ws' := []) [] rfl
  have hD9 := hD.sub (ws' := []) [] (by decide) rfl
  exact W.iret (v := (-1)) hx hb hr (fun t ht hW => ⟨⟨(-1), (), rfl, (rg_mono (rg_k (x := (-1)) (c := -1) (by decide)) (by decide) (by decide)), ⟨by rw [ht]; exact hP9, hD9⟩⟩, hS.F ht⟩) hS.2.2 dX5_levelOf_103
def v_s_X5_exchange : List Cond := Cond.code yX5_exchange cX5_exchange 3 (some (.object "MayRings$Valley")) :: ([Cond.fieldLink RX5 35 "MayRings$Reader" "draft" "LMayRings$Valley;"] ++ (wsX50 ++ ([])))
theorem k_s_X5_exchange : GoodIn lw_tbl v_s_X5_exchange := gd_c (List.mem_of_getElem? (i := 780) (by decide +kernel)) rfl (goodIn_app (gd_c (List.mem_of_getElem? (i := 313) (by decide +kernel)) rfl (gd_nil)) (goodIn_app kfX5 (gd_nil)))
set_option maxHeartbeats 2000000 in
set_option maxRecDepth 100000 in
theorem c_s_X5_exchange (l : Launch) (dC : Nat → ClassId) (dI : Nat → Nat → Nat) (cB cI cJ cZ cP : ClassId) (h0 : Nat) (h1 : Nat) (h2 : Nat) (h3 : Nat) (h4 : Nat) (a0 : Int32) (a1 : Int32) (h5 : Nat) (a9 : Int32) (a10 : Int32) (a11 : Int32) (a12 : Int32) (a13 : Int32) (h15 : Nat) (sz : Nat) : Met l yX5_exchange v_s_X5_exchange ({ frames := 0, cells := 0, slots := 0, locals := 0 }) (va_Pc [.ref h0, .ref h15] (fun U => U.heap.size = sz ∧ va_P (dC, dI) vwCl [(h0, .inr (5, [.ref h1, .ref h2, .ref h3, .ref h4, .int a0, .int a1, .ref h5, .int a9, .int a10, .int a11, .int a12, .int a13]))] U.heap ∧ va_K (dC, dI) vwCl (ty5 cB cI cJ cZ cP) U ∧ va_D (fun _ => True) [(h0, .inr (5, [.ref h1, .ref h2, .ref h3, .ref h4, .int a0, .int a1, .ref h5, .int a9, .int a10, .int a11, .int a12, .int a13]))])) (va_Qr (fun _ : Unit => True) (fun _ a t => a = h5 ∧ (va_P (dC, dI) vwCl [(h0, .inr (5, [.ref h1, .ref h2, .ref h3, .ref h4, .int a0, .int a1, .ref h15, .int a9, .int a10, .int a11, .int a12, .int a13]))] t.heap ∧ va_D (va_A [(h0, .inr (5, [.ref h1, .ref h2, .ref h3, .ref h4, .int a0, .int a1, .ref h5, .int a9, .int a10, .int a11, .int a12, .int a13]))] sz) [(h0, .inr (5, [.ref h1, .ref h2, .ref h3, .ref h4, .int a0, .int a1, .ref h15, .int a9, .int a10, .int a11, .int a12, .int a13]))])) (va_A [(h0, .inr (5, [.ref h1, .ref h2, .ref h3, .ref h4, .int a0, .int a1, .ref h5, .int a9, .int a10, .int a11, .int a12, .int a13]))] sz)) 0 0 (va_A [(h0, .inr (5, [.ref h1, .ref h2, .ref h3, .ref h4, .int a0, .int a1, .ref h5, .int a9, .int a10, .int a11, .int a12, .int a13]))] sz) := by
  refine Met.ofW (cc := cX5_exchange) (maxL := 3) (ret := (some (.object "MayRings$Valley"))) (by decide) rfl ?_
  intro p e s m args below meth c s₁ B hml hv
  obtain ⟨rfl, hsz, hP, hK, hD0⟩ := hv
  have hx := B.exec
  have hb := B.bytes
  have hr := B.returns
  have hts := atoms_spec (ws := v_s_X5_exchange) B.pre
  have hown : s.vm.findClass RX5 = some m.cls := findClass_of_methodNamed B.named
  have hlocks := B.notSynchronized
  have hinX5 : ∀ w ∈ wsX50, w ∈ v_s_X5_exchange := fun _ h => List.mem_cons_of_mem _ (List.mem_append_right _ (List.mem_append_left _ h))
  subst hsz
  have hD := hD0.self (sz := s.heap.size)
  generalize hAe : va_A [(h0, .inr (5, [.ref h1, .ref h2, .ref h3, .ref h4, .int a0, .int a1, .ref h5, .int a9, .int a10, .int a11, .int a12, .int a13]))] s.heap.size = A at hD ⊢
  have hA : ∀ q : Nat, s.heap.size ≤ q → A q := fun q h => by rw [← hAe]; exact Or.inr h
  have hP : va_P (dC, dI) vwCl [(h0, .inr (5, [.ref h1, .ref h2, .ref h3, .ref h4, .int a0, .int a1, .ref h5, .int a9, .int a10, .int a11, .int a12, .int a13]))] s.heap := hP
  have hl := lv_entry ([.ref h0, .ref h15]) (n := 3) (Nat.le_of_ble_eq_true rfl)
  rw [lg_entry_eq]
  generalize (lg_sl ([.ref h0, .ref h15]) ++ List.replicate (3 - (lg_sl ([.ref h0, .ref h15])).length) Slot.unset).toArray = ls at hl ⊢
  have hl : lv_has ls 3 [(0, .ref h0), (1, .ref h15)] := hl
  refine W_gen (A := A) hP (fun H locs hP hS => ?_)
  refine lv_aload_n hx hb dX5_exchange_0 rfl (lv_at hl 0 rfl) ?_
  refine va_get (D := (dC, dI)) (ci := 5) (v := .ref h5) (C := RX5) (T := TX5) (N := 12) hx hb hts hinX5 hown hK hP 0 rfl rfl 6 (by decide) (hts (.fieldLink RX5 35 "MayRings$Reader" "draft" "LMayRings$Valley;") (List.mem_of_getElem? (i := 1) rfl)) (fun _ h9 => h9) rfl dX5_exchange_1 ?_
  refine lv_astore_n (lv' := [(2, .ref h5), (0, .ref h0), (1, .ref h15)]) hx hb dX5_exchange_4 rfl hl (by decide) rfl (fun ls hl => ?_)
  refine lv_aload_n hx hb dX5_exchange_5 rfl (lv_at hl 1 rfl) ?_
  refine lv_aload_n hx hb dX5_exchange_6 rfl (lv_at hl 2 rfl) ?_
  refine va_put (D := (dC, dI)) (ci := 5) (v := .ref h15) (ty := .object "MayRings$Valley") (C := RX5) (T := TX5) (N := 12) hx hb hts hinX5 tyX5 tyX5_ok nmX5 hown hK hP hD hS 0 rfl rfl 6 (by decide) (hts (.fieldLink RX5 35 "MayRings$Reader" "draft" "LMayRings$Valley;") (List.mem_of_getElem? (i := 1) rfl)) (fun _ h9 => h9) rfl (by decide +kernel) (rfl) (rfl) (Nat.le_of_ble_eq_true rfl) dX5_exchange_7 (fun H locs hP hD hS => ?_)
  replace hP : va_P (dC, dI) vwCl [(h0, .inr (5, [.ref h1, .ref h2, .ref h3, .ref h4, .int a0, .int a1, .ref h15, .int a9, .int a10, .int a11, .int a12, .int a13]))] H := hP
  replace hD : va_D A [(h0, .inr (5, [.ref h1, .ref h2, .ref h3, .ref h4, .int a0, .int a1, .ref h15, .int a9, .int a10, .int a11, .int a12, .int a13]))] := hD
  refine lv_aload_n hx hb dX5_exchange_10 rfl (lv_at hl 0 rfl) ?_
  have hP9 := hP.sub (ws' := [(h0, .inr (5, [.ref h1, .ref h2, .ref h3, .ref h4, .int a0, .int a1, .ref h15, .int a9, .int a10, .int a11, .int a12, .int a13]))]) [0] rfl
  have hD9 := hD.sub (ws' := [(h0, .inr (5, [.ref h1, .ref h2, .ref h3, .ref h4, .int a0, .int a1, .ref h15, .int a9, .int a10, .int a11, .int a12, .int a13]))]) [0] (by decide) rfl
  exact W.aret hx hb hr (Or.inl ⟨_, rfl⟩) (Or.inr ⟨_, rfl⟩) (fun t ht hW => ⟨⟨(), h5, rfl, trivial, rfl, ⟨by rw [ht]; exact hP9, hD9⟩⟩, hS.F ht⟩) hS.2.2 dX5_exchange_11
