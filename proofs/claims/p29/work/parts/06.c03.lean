def v_s_X1_pop : List Cond := Cond.code yX1_pop cX1_pop 1 (some .int) :: ([Cond.fieldLink RX1 25 "MayRings$Law" "top" "I", Cond.fieldLink RX1 15 "MayRings$Law" "stack" "[I"] ++ (wsX10 ++ ([])))
theorem k_s_X1_pop : GoodIn lw_tbl v_s_X1_pop := gd_c (List.mem_of_getElem? (i := 821) (by decide +kernel)) rfl (goodIn_app (gd_c (List.mem_of_getElem? (i := 187) (by decide +kernel)) rfl (gd_c (List.mem_of_getElem? (i := 184) (by decide +kernel)) rfl (gd_nil))) (goodIn_app kfX1 (gd_nil)))
set_option maxHeartbeats 2000000 in
set_option maxRecDepth 100000 in
theorem c_s_X1_pop (l : Launch) (dC : Nat → ClassId) (dI : Nat → Nat → Nat) (cB cI cJ cZ cP : ClassId) (h0 : Nat) (h1 : Nat) (h2 : Nat) (g1 : Nat → Int32) (h3 : Nat) (a0 : Int32) (a1 : Int32) (ha1 : rg (0) (40) a1) (a2 : Int32) (sz : Nat) : Met l yX1_pop v_s_X1_pop ({ frames := 0, cells := 0, slots := 0, locals := 0 }) (va_Pc [.ref h0] (fun U => U.heap.size = sz ∧ va_P (dC, dI) vwCl [(h0, .inr (1, [.ref h1, .ref h2, .ref h3, .int a0, .int a1, .int a2])), (h2, .inl (cI, 40, .inl g1))] U.heap ∧ va_K (dC, dI) vwCl (ty5 cB cI cJ cZ cP) U ∧ va_D (fun _ => True) [(h0, .inr (1, [.ref h1, .ref h2, .ref h3, .int a0, .int a1, .int a2])), (h2, .inl (cI, 40, .inl g1))])) (va_Qi (fun (r : Int32) (u9 : Unit) => True) (fun u9 t => ∃ (z0 : Int32), rg (0) (40) z0 ∧ va_P (dC, dI) vwCl [(h0, .inr (1, [.ref h1, .ref h2, .ref h3, .int a0, .int z0, .int a2])), (h2, .inl (cI, 40, .inl g1))] t.heap ∧ va_D (va_A [(h0, .inr (1, [.ref h1, .ref h2, .ref h3, .int a0, .int a1, .int a2])), (h2, .inl (cI, 40, .inl g1))] sz) [(h0, .inr (1, [.ref h1, .ref h2, .ref h3, .int a0, .int z0, .int a2])), (h2, .inl (cI, 40, .inl g1))]) (va_A [(h0, .inr (1, [.ref h1, .ref h2, .ref h3, .int a0, .int a1, .int a2])), (h2, .inl (cI, 40, .inl g1))] sz)) 0 0 (va_A [(h0, .inr (1, [.ref h1, .ref h2, .ref h3, .int a0, .int a1, .int a2])), (h2, .inl (cI, 40, .inl g1))] sz) := by
  refine Met.ofW (cc := cX1_pop) (maxL := 1) (ret := (some .int)) (by decide) rfl ?_
  intro p e s m args below meth c s₁ B hml hv
  obtain ⟨rfl, hsz, hP, hK, hD0⟩ := hv
  have hx := B.exec
  have hb := B.bytes
  have hr := B.returns
  have hts := atoms_spec (ws := v_s_X1_pop) B.pre
  have hown : s.vm.findClass RX1 = some m.cls := findClass_of_methodNamed B.named
  have hlocks := B.notSynchronized
  have hinX1 : ∀ w ∈ wsX10, w ∈ v_s_X1_pop := fun _ h => List.mem_cons_of_mem _ (List.mem_append_right _ (List.mem_append_left _ h))
  subst hsz
  have hD := hD0.self (sz := s.heap.size)
  generalize hAe : va_A [(h0, .inr (1, [.ref h1, .ref h2, .ref h3, .int a0, .int a1, .int a2])), (h2, .inl (cI, 40, .inl g1))] s.heap.size = A at hD ⊢
  have hA : ∀ q : Nat, s.heap.size ≤ q → A q := fun q h => by rw [← hAe]; exact Or.inr h
  have hP : va_P (dC, dI) vwCl [(h0, .inr (1, [.ref h1, .ref h2, .ref h3, .int a0, .int a1, .int a2])), (h2, .inl (cI, 40, .inl g1))] s.heap := hP
  have hl := lv_entry ([.ref h0]) (n := 1) (Nat.le_of_ble_eq_true rfl)
  rw [lg_entry_eq]
  generalize (lg_sl ([.ref h0]) ++ List.replicate (1 - (lg_sl ([.ref h0])).length) Slot.unset).toArray = ls at hl ⊢
  have hl : lv_has ls 1 [(0, .ref h0)] := hl
  refine W_gen (A := A) hP (fun H locs hP hS => ?_)
  refine lv_aload_n hx hb dX1_pop_0 rfl (lv_at hl 0 rfl) ?_
  refine va_get (D := (dC, dI)) (ci := 1) (v := .int a1) (C := RX1) (T := TX1) (N := 6) hx hb hts hinX1 hown hK hP 0 rfl rfl 4 (by decide) (hts (.fieldLink RX1 25 "MayRings$Law" "top" "I") (List.mem_of_getElem? (i := 1) rfl)) (fun _ h9 => h9) rfl dX1_pop_1 ?_
  refine lv_if_gt (tgt := 9) hx hb dX1_pop_4 (by decide) (fun c_1 => ?_) (fun c_1 => ?_)
  · skip
    have h_2 : rg (1) (40) a1 := by have ha := ha1; have hb_ := (rg_k (x := 0) (c := 0) (by decide)); simp only [rg, fa_lt, fa_le, fa_eq, (by decide : (0 : Int32).toInt = 0)] at ha hb_ c_1; simp only [rg]; omega
    refine lv_aload_n hx hb dX1_pop_9 rfl (lv_at hl 0 rfl) ?_
    refine lv_dup hx hb dX1_pop_10 rfl ?_
    refine va_get (D := (dC, dI)) (ci := 1) (v := .int a1) (C := RX1) (T := TX1) (N := 6) hx hb hts hinX1 hown hK hP 0 rfl rfl 4 (by decide) (hts (.fieldLink RX1 25 "MayRings$Law" "top" "I") (List.mem_of_getElem? (i := 1) rfl)) (fun _ h9 => h9) rfl dX1_pop_11 ?_
    refine lv_iconst (v := 1) hx hb dX1_pop_14 (by decide) ?_
    refine lv_isub hx hb dX1_pop_15 ?_
    refine lv_topi (fun x_3 ex_3 => ?_)
    have hx_3 : rg (0) (39) x_3 := by rw [ex_3]; exact rg_mono (rg_sub h_2 (rg_k (x := 1) (c := 1) (by decide)) (by decide) (by decide)) (by decide) (by decide)
    have qx_3 : x_3.toInt = a1.toInt + (-1) := by rw [ex_3]; exact rg_subE h_2 (rg_k (x := 1) (c := 1) (by decide)) (by decide) (by decide) trivial
    refine va_put (D := (dC, dI)) (ci := 1) (v := .int x_3) (ty := .int) (C := RX1) (T := TX1) (N := 6) hx hb hts hinX1 tyX1 tyX1_ok nmX1 hown hK hP hD hS 0 rfl rfl 4 (by decide) (hts (.fieldLink RX1 25 "MayRings$Law" "top" "I") (List.mem_of_getElem? (i := 1) rfl)) (fun _ h9 => h9) rfl (by decide +kernel) (rfl) (rfl) (Nat.le_of_ble_eq_true rfl) dX1_pop_16 (fun H locs hP hD hS => ?_)
    replace hP : va_P (dC, dI) vwCl [(h0, .inr (1, [.ref h1, .ref h2, .ref h3, .int a0, .int x_3, .int a2])), (h2, .inl (cI, 40, .inl g1))] H := hP
    replace hD : va_D A [(h0, .inr (1, [.ref h1, .ref h2, .ref h3, .int a0, .int x_3, .int a2])), (h2, .inl (cI, 40, .inl g1))] := hD
    refine lv_aload_n hx hb dX1_pop_19 rfl (lv_at hl 0 rfl) ?_
    refine va_get (D := (dC, dI)) (ci := 1) (v := .ref h2) (C := RX1) (T := TX1) (N := 6) hx hb hts hinX1 hown hK hP 0 rfl rfl 1 (by decide) (hts (.fieldLink RX1 15 "MayRings$Law" "stack" "[I") (List.mem_of_getElem? (i := 2) rfl)) (fun _ h9 => h9) rfl dX1_pop_20 ?_
    refine lv_aload_n hx hb dX1_pop_23 rfl (lv_at hl 0 rfl) ?_
    refine va_get (D := (dC, dI)) (ci := 1) (v := .int x_3) (C := RX1) (T := TX1) (N := 6) hx hb hts hinX1 hown hK hP 0 rfl rfl 4 (by decide) (hts (.fieldLink RX1 25 "MayRings$Law" "top" "I") (List.mem_of_getElem? (i := 1) rfl)) (fun _ h9 => h9) rfl dX1_pop_24 ?_
    refine va_iald hx hb hK hP 1 1 rfl rfl (rg_in (n := 40) (rg_mono hx_3 (by decide) (by decide))) dX1_pop_27 ?_
    refine lv_topi (fun x_4 ex_4 => ?_)
    have hP9 := hP.sub (ws' := [(h0, .inr (1, [.ref h1, .ref h2, .ref h3, .int a0, .int x_3, .int a2])), (h2, .inl (cI, 40, .inl g1))]) [0, 1] rfl
    have hD9 := hD.sub (ws' := [(h0, .inr (1, [.ref h1, .ref h2, .ref h3, .int a0, .int x_3, .int a2])), (h2, .inl (cI, 40, .inl g1))]) [0, 1] (by decide) rfl
    exact W.iret (v := x_4) hx hb hr (fun t ht hW => ⟨⟨x_4, (), rfl, trivial, ⟨x_3, (rg_mono hx_3 (by decide) (by decide)), by rw [ht]; exact hP9, hD9⟩⟩, hS.F ht⟩) hS.2.2 dX1_pop_28
  · skip
    have h_5 : rg (0) (0) a1 := by have ha := ha1; have hb_ := (rg_k (x := 0) (c := 0) (by decide)); simp only [rg, fa_lt, fa_le, fa_eq, (by decide : (0 : Int32).toInt = 0)] at ha hb_ c_1; simp only [rg]; omega
    refine lv_iconst (v := 0) hx hb dX1_pop_7 (by decide) ?_
    have hP9 := hP.sub (ws' := [(h0, .inr (1, [.ref h1, .ref h2, .ref h3, .int a0, .int a1, .int a2])), (h2, .inl (cI, 40, .inl g1))]) [0, 1] rfl
    have hD9 := hD.sub (ws' := [(h0, .inr (1, [.ref h1, .ref h2, .ref h3, .int a0, .int a1, .int a2])), (h2, .inl (cI, 40, .inl g1))]) [0, 1] (by decide) rfl
    exact W.iret (v := 0) hx hb hr (fun t ht hW => ⟨⟨0, (), rfl, trivial, ⟨a1, (rg_mono h_5 (by decide) (by decide)), by rw [ht]; exact hP9, hD9⟩⟩, hS.F ht⟩) hS.2.2 dX1_pop_8
def v_s_X1_push : List Cond := Cond.code yX1_push cX1_push 2 none :: ([Cond.fieldLink RX1 25 "MayRings$Law" "top" "I", Cond.fieldLink RX1 15 "MayRings$Law" "stack" "[I"] ++ (wsX10 ++ ([])))
theorem k_s_X1_push : GoodIn lw_tbl v_s_X1_push := gd_c (List.mem_of_getElem? (i := 817) (by decide +kernel)) rfl (goodIn_app (gd_c (List.mem_of_getElem? (i := 187) (by decide +kernel)) rfl (gd_c (List.mem_of_getElem? (i := 184) (by decide +kernel)) rfl (gd_nil))) (goodIn_app kfX1 (gd_nil)))
set_option maxHeartbeats 2000000 in
set_option maxRecDepth 100000 in
theorem c_s_X1_push (l : Launch) (dC : Nat → ClassId) (dI : Nat → Nat → Nat) (cB cI cJ cZ cP : ClassId) (h0 : Nat) (h1 : Nat) (h2 : Nat) (g1 : Nat → Int32) (h3 : Nat) (a0 : Int32) (a1 : Int32) (ha1 : rg (0) (40) a1) (a2 : Int32) (p0 : Int32) (sz : Nat) : Met l yX1_push v_s_X1_push ({ frames := 0, cells := 0, slots := 0, locals := 0 }) (va_Pc [.ref h0, .int p0] (fun U => U.heap.size = sz ∧ va_P (dC, dI) vwCl [(h0, .inr (1, [.ref h1, .ref h2, .ref h3, .int a0, .int a1, .int a2])), (h2, .inl (cI, 40, .inl g1))] U.heap ∧ va_K (dC, dI) vwCl (ty5 cB cI cJ cZ cP) U ∧ va_D (fun _ => True) [(h0, .inr (1, [.ref h1, .ref h2, .ref h3, .int a0, .int a1, .int a2])), (h2, .inl (cI, 40, .inl g1))])) (va_Qv (fun _ : Unit => True) (fun _ t => ∃ (z0 : Int32) (z1 : Nat → Int32), rg (0) (40) z0 ∧ va_P (dC, dI) vwCl [(h0, .inr (1, [.ref h1, .ref h2, .ref h3, .int a0, .int z0, .int a2])), (h2, .inl (cI, 40, .inl z1))] t.heap ∧ va_D (va_A [(h0, .inr (1, [.ref h1, .ref h2, .ref h3, .int a0, .int a1, .int a2])), (h2, .inl (cI, 40, .inl g1))] sz) [(h0, .inr (1, [.ref h1, .ref h2, .ref h3, .int a0, .int z0, .int a2])), (h2, .inl (cI, 40, .inl z1))]) (va_A [(h0, .inr (1, [.ref h1, .ref h2, .ref h3, .int a0, .int a1, .int a2])), (h2, .inl (cI, 40, .inl g1))] sz)) 0 0 (va_A [(h0, .inr (1, [.ref h1, .ref h2, .ref h3, .int a0, .int a1, .int a2])), (h2, .inl (cI, 40, .inl g1))] sz) := by
  refine Met.ofW (cc := cX1_push) (maxL := 2) (ret := none) (by decide) rfl ?_
  intro p e s m args below meth c s₁ B hml hv
  obtain ⟨rfl, hsz, hP, hK, hD0⟩ := hv
  have hx := B.exec
  have hb := B.bytes
  have hr := B.returns
  have hts := atoms_spec (ws := v_s_X1_push) B.pre
  have hown : s.vm.findClass RX1 = some m.cls := findClass_of_methodNamed B.named
  have hlocks := B.notSynchronized
  have hinX1 : ∀ w ∈ wsX10, w ∈ v_s_X1_push := fun _ h => List.mem_cons_of_mem _ (List.mem_append_right _ (List.mem_append_left _ h))
  subst hsz
  have hD := hD0.self (sz := s.heap.size)
  generalize hAe : va_A [(h0, .inr (1, [.ref h1, .ref h2, .ref h3, .int a0, .int a1, .int a2])), (h2, .inl (cI, 40, .inl g1))] s.heap.size = A at hD ⊢
  have hA : ∀ q : Nat, s.heap.size ≤ q → A q := fun q h => by rw [← hAe]; exact Or.inr h
  have hP : va_P (dC, dI) vwCl [(h0, .inr (1, [.ref h1, .ref h2, .ref h3, .int a0, .int a1, .int a2])), (h2, .inl (cI, 40, .inl g1))] s.heap := hP
  have hl := lv_entry ([.ref h0, .int p0]) (n := 2) (Nat.le_of_ble_eq_true rfl)
  rw [lg_entry_eq]
  generalize (lg_sl ([.ref h0, .int p0]) ++ List.replicate (2 - (lg_sl ([.ref h0, .int p0])).length) Slot.unset).toArray = ls at hl ⊢
  have hl : lv_has ls 2 [(0, .ref h0), (1, .int p0)] := hl
  refine W_gen (A := A) hP (fun H locs hP hS => ?_)
  refine lv_aload_n hx hb dX1_push_0 rfl (lv_at hl 0 rfl) ?_
  refine va_get (D := (dC, dI)) (ci := 1) (v := .int a1) (C := RX1) (T := TX1) (N := 6) hx hb hts hinX1 hown hK hP 0 rfl rfl 4 (by decide) (hts (.fieldLink RX1 25 "MayRings$Law" "top" "I") (List.mem_of_getElem? (i := 1) rfl)) (fun _ h9 => h9) rfl dX1_push_1 ?_
  refine lv_bipush (v := 40) hx hb dX1_push_4 (by decide) ?_
  refine lv_icmp_ge (tgt := 29) hx hb dX1_push_6 (by decide) (fun c_1 => ?_) (fun c_1 => ?_)
  · skip
    have h_2 : rg (40) (40) a1 := by have ha := ha1; have hb_ := (rg_k (x := 40) (c := 40) (by decide)); simp only [rg, fa_lt, fa_le, fa_eq, (by decide : (40 : Int32).toInt = 40)] at ha hb_ c_1; simp only [rg]; omega
    have hP9 := hP.sub (ws' := [(h0, .inr (1, [.ref h1, .ref h2, .ref h3, .int a0, .int a1, .int a2])), (h2, .inl (cI, 40, .inl g1))]) [0, 1] rfl
    have hD9 := hD.sub (ws' := [(h0, .inr (1, [.ref h1, .ref h2, .ref h3, .int a0, .int a1, .int a2])), (h2, .inl (cI, 40, .inl g1))]) [0, 1] (by decide) rfl
    exact W.vret hx hb hr (fun t ht hW => ⟨⟨(), rfl, trivial, ⟨a1, g1, (rg_mono h_2 (by decide) (by decide)), by rw [ht]; exact hP9, hD9⟩⟩, hS.F ht⟩) hS.2.2 dX1_push_29
  · skip
    have h_3 : rg (0) (39) a1 := by have ha := ha1; have hb_ := (rg_k (x := 40) (c := 40) (by decide)); simp only [rg, fa_lt, fa_le, fa_eq, (by decide : (40 : Int32).toInt = 40)] at ha hb_ c_1; simp only [rg]; omega
    refine lv_aload_n hx hb dX1_push_9 rfl (lv_at hl 0 rfl) ?_
    refine va_get (D := (dC, dI)) (ci := 1) (v := .ref h2) (C := RX1) (T := TX1) (N := 6) hx hb hts hinX1 hown hK hP 0 rfl rfl 1 (by decide) (hts (.fieldLink RX1 15 "MayRings$Law" "stack" "[I") (List.mem_of_getElem? (i := 2) rfl)) (fun _ h9 => h9) rfl dX1_push_10 ?_
    refine lv_aload_n hx hb dX1_push_13 rfl (lv_at hl 0 rfl) ?_
    refine va_get (D := (dC, dI)) (ci := 1) (v := .int a1) (C := RX1) (T := TX1) (N := 6) hx hb hts hinX1 hown hK hP 0 rfl rfl 4 (by decide) (hts (.fieldLink RX1 25 "MayRings$Law" "top" "I") (List.mem_of_getElem? (i := 1) rfl)) (fun _ h9 => h9) rfl dX1_push_14 ?_
    refine lv_iload_n hx hb dX1_push_17 rfl (lv_at hl 1 rfl) ?_
    refine va_iast hx hb hK hP hD hS 1 1 rfl rfl (rg_in (n := 40) (rg_mono h_3 (by decide) (by decide))) dX1_push_18 (fun H locs hP hD hS => ?_)
    obtain ⟨f_4, ef_4⟩ : ∃ f : Nat → Int32, f = upd g1 (a1 : Int32).toNatClampNeg p0 := ⟨_, rfl⟩
    rw [← ef_4] at hP hD
    clear ef_4
    replace hP : va_P (dC, dI) vwCl [(h0, .inr (1, [.ref h1, .ref h2, .ref h3, .int a0, .int a1, .int a2])), (h2, .inl (cI, 40, .inl f_4))] H := hP
    replace hD : va_D A [(h0, .inr (1, [.ref h1, .ref h2, .ref h3, .int a0, .int a1, .int a2])), (h2, .inl (cI, 40, .inl f_4))] := hD
    refine lv_aload_n hx hb dX1_push_19 rfl (lv_at hl 0 rfl) ?_
    refine lv_dup hx hb dX1_push_20 rfl ?_
    refine va_get (D := (dC, dI)) (ci := 1) (v := .int a1) (C := RX1) (T := TX1) (N := 6) hx hb hts hinX1 hown hK hP 0 rfl rfl 4 (by decide) (hts (.fieldLink RX1 25 "MayRings$Law" "top" "I") (List.mem_of_getElem? (i := 1) rfl)) (fun _ h9 => h9) rfl dX1_push_21 ?_
    refine lv_iconst (v := 1) hx hb dX1_push_24 (by decide) ?_
    refine lv_iadd hx hb dX1_push_25 ?_
    refine lv_topi (fun x_5 ex_5 => ?_)
    have hx_5 : rg (1) (40) x_5 := by rw [ex_5]; exact rg_mono (rg_add h_3 (rg_k (x := 1) (c := 1) (by decide)) (by decide) (by decide)) (by decide) (by decide)
    have qx_5 : x_5.toInt = a1.toInt + (1) := by rw [ex_5]; exact rg_addE h_3 (rg_k (x := 1) (c := 1) (by decide)) (by decide) (by decide) trivial
    refine va_put (D := (dC, dI)) (ci := 1) (v := .int x_5) (ty := .int) (C := RX1) (T := TX1) (N := 6) hx hb hts hinX1 tyX1 tyX1_ok nmX1 hown hK hP hD hS 0 rfl rfl 4 (by decide) (hts (.fieldLink RX1 25 "MayRings$Law" "top" "I") (List.mem_of_getElem? (i := 1) rfl)) (fun _ h9 => h9) rfl (by decide +kernel) (rfl) (rfl) (Nat.le_of_ble_eq_true rfl) dX1_push_26 (fun H locs hP hD hS => ?_)
    replace hP : va_P (dC, dI) vwCl [(h0, .inr (1, [.ref h1, .ref h2, .ref h3, .int a0, .int x_5, .int a2])), (h2, .inl (cI, 40, .inl f_4))] H := hP
    replace hD : va_D A [(h0, .inr (1, [.ref h1, .ref h2, .ref h3, .int a0, .int x_5, .int a2])), (h2, .inl (cI, 40, .inl f_4))] := hD
    have hP9 := hP.sub (ws' := [(h0, .inr (1, [.ref h1, .ref h2, .ref h3, .int a0, .int x_5, .int a2])), (h2, .inl (cI, 40, .inl f_4))]) [0, 1] rfl
    have hD9 := hD.sub (ws' := [(h0, .inr (1, [.ref h1, .ref h2, .ref h3, .int a0, .int x_5, .int a2])), (h2, .inl (cI, 40, .inl f_4))]) [0, 1] (by decide) rfl
    exact W.vret hx hb hr (fun t ht hW => ⟨⟨(), rfl, trivial, ⟨x_5, f_4, (rg_mono hx_5 (by decide) (by decide)), by rw [ht]; exact hP9, hD9⟩⟩, hS.F ht⟩) hS.2.2 dX1_push_29
def v_s_X1_value : List Cond := Cond.code yX1_value cX1_value 4 (some .int) :: ([Cond.fieldLink RX1 25 "MayRings$Law" "top" "I", Cond.fieldLink RX1 21 "MayRings$Law" "length" "I", Cond.methodLink RX1 44 yX1_pop, Cond.instanceMethod yX1_pop, Cond.selects RX1 yX1_pop yX1_pop, Cond.initialized RX1, Cond.fieldLink RX1 11 "MayRings$Law" "codes" "[I", Cond.fieldLink RX1 18 "MayRings$Law" "facts" "[I", Cond.methodLink RX1 41 yX1_push, Cond.instanceMethod yX1_push, Cond.selects RX1 yX1_push yX1_push, Cond.methodLink RX1 48 yX1_joined, Cond.static yX1_joined] ++ (wsX10 ++ (v_s_X1_pop ++ (v_s_X1_push ++ (v_s_X1_joined ++ ([]))))))
theorem k_s_X1_value : GoodIn lw_tbl v_s_X1_value := gd_c (List.mem_of_getElem? (i := 813) (by decide +kernel)) rfl (goodIn_app (gd_c (List.mem_of_getElem? (i := 187) (by decide +kernel)) rfl (gd_c (List.mem_of_getElem? (i := 186) (by decide +kernel)) rfl (gd_c (List.mem_of_getElem? (i := 818) (by decide +kernel)) rfl (gd_c (List.mem_of_getElem? (i := 820) (by decide +kernel)) rfl (gd_c (List.mem_of_getElem? (i := 27) (by decide +kernel)) rfl (gd_c (List.mem_of_getElem? (i := 133) (by decide +kernel)) rfl (gd_c (List.mem_of_getElem? (i := 183) (by decide +kernel)) rfl (gd_c (List.mem_of_getElem? (i := 185) (by decide +kernel)) rfl (gd_c (List.mem_of_getElem? (i := 814) (by decide +kernel)) rfl (gd_c (List.mem_of_getElem? (i := 816) (by decide +kernel)) rfl (gd_c (List.mem_of_getElem? (i := 26) (by decide +kernel)) rfl (gd_c (List.mem_of_getElem? (i := 822) (by decide +kernel)) rfl (gd_c (List.mem_of_getElem? (i := 823) (by decide +kernel)) rfl (gd_nil)))))))))))))) (goodIn_app kfX1 (goodIn_app k_s_X1_pop (goodIn_app k_s_X1_push (goodIn_app k_s_X1_joined (gd_nil))))))
set_option maxHeartbeats 2000000 in
set_option maxRecDepth 100000 in
theorem c_s_X1_value (l : Launch) (dC : Nat → ClassId) (dI : Nat → Nat → Nat) (cB cI cJ cZ cP : ClassId) (h0 : Nat) (h1 : Nat) (g0 : Nat → Int32) (h2 : Nat) (g1 : Nat → Int32) (h3 : Nat) (g2 : Nat → Int32) (a0 : Int32) (ha0 : rg (0) (360) a0) (a1 : Int32) (a2 : Int32) (sz : Nat) : Met l yX1_value v_s_X1_value ({ frames := 1, cells := 0, slots := 0, locals := 22 }) (va_Pc [.ref h0] (fun U => U.heap.size = sz ∧ va_P (dC, dI) vwCl [(h0, .inr (1, [.ref h1, .ref h2, .ref h3, .int a0, .int a1, .int a2])), (h1, .inl (cI, 360, .inl g0)), (h2, .inl (cI, 40, .inl g1)), (h3, .inl (cI, 16, .inl g2))] U.heap ∧ va_K (dC, dI) vwCl (ty5 cB cI cJ cZ cP) U ∧ va_D (fun _ => True) [(h0, .inr (1, [.ref h1, .ref h2, .ref h3, .int a0, .int a1, .int a2])), (h1, .inl (cI, 360, .inl g0)), (h2, .inl (cI, 40, .inl g1)), (h3, .inl (cI, 16, .inl g2))])) (va_Qi (fun (r : Int32) (u9 : Unit) => True) (fun u9 t => ∃ (z0 : Int32) (z1 : Nat → Int32), rg (0) (40) z0 ∧ va_P (dC, dI) vwCl [(h0, .inr (1, [.ref h1, .ref h2, .ref h3, .int a0, .int z0, .int a2])), (h1, .inl (cI, 360, .inl g0)), (h2, .inl (cI, 40, .inl z1)), (h3, .inl (cI, 16, .inl g2))] t.heap ∧ va_D (va_A [(h0, .inr (1, [.ref h1, .ref h2, .ref h3, .int a0, .int a1, .int a2])), (h1, .inl (cI, 360, .inl g0)), (h2, .inl (cI, 40, .inl g1)), (h3, .inl (cI, 16, .inl g2))] sz) [(h0, .inr (1, [.ref h1, .ref h2, .ref h3, .int a0, .int z0, .int a2])), (h1, .inl (cI, 360, .inl g0)), (h2, .inl (cI, 40, .inl z1)), (h3, .inl (cI, 16, .inl g2))]) (va_A [(h0, .inr (1, [.ref h1, .ref h2, .ref h3, .int a0, .int a1, .int a2])), (h1, .inl (cI, 360, .inl g0)), (h2, .inl (cI, 40, .inl g1)), (h3, .inl (cI, 16, .inl g2))] sz)) 0 0 (va_A [(h0, .inr (1, [.ref h1, .ref h2, .ref h3, .int a0, .int a1, .int a2])), (h1, .inl (cI, 360, .inl g0)), (h2, .inl (cI, 40, .inl g1)), (h3, .inl (cI, 16, .inl g2))] sz) := by
  refine Met.ofW (cc := cX1_value) (maxL := 4) (ret := (some .int)) (by decide) rfl ?_
  intro p e s m args below meth c s₁ B hml hv
  obtain ⟨rfl, hsz, hP, hK, hD0⟩ := hv
  have hx := B.exec
  have hb := B.bytes
  have hr := B.returns
  have hts := atoms_spec (ws := v_s_X1_value) B.pre
  have hown : s.vm.findClass RX1 = some m.cls := findClass_of_methodNamed B.named
  have hlocks := B.notSynchronized
  have hinX1 : ∀ w ∈ wsX10, w ∈ v_s_X1_value := fun _ h => List.mem_cons_of_mem _ (List.mem_append_right _ (List.mem_append_left _ h))
  subst hsz
  have hD := hD0.self (sz := s.heap.size)
  generalize hAe : va_A [(h0, .inr (1, [.ref h1, .ref h2, .ref h3, .int a0, .int a1, .int a2])), (h1, .inl (cI, 360, .inl g0)), (h2, .inl (cI, 40, .inl g1)), (h3, .inl (cI, 16, .inl g2))] s.heap.size = A at hD ⊢
  have hA : ∀ q : Nat, s.heap.size ≤ q → A q := fun q h => by rw [← hAe]; exact Or.inr h
  have hP : va_P (dC, dI) vwCl [(h0, .inr (1, [.ref h1, .ref h2, .ref h3, .int a0, .int a1, .int a2])), (h1, .inl (cI, 360, .inl g0)), (h2, .inl (cI, 40, .inl g1)), (h3, .inl (cI, 16, .inl g2))] s.heap := hP
  have hl := lv_entry ([.ref h0]) (n := 4) (Nat.le_of_ble_eq_true rfl)
  rw [lg_entry_eq]
  generalize (lg_sl ([.ref h0]) ++ List.replicate (4 - (lg_sl ([.ref h0])).length) Slot.unset).toArray = ls at hl ⊢
  have hl : lv_has ls 4 [(0, .ref h0)] := hl
  refine W_gen (A := A) hP (fun H locs hP hS => ?_)
  refine lv_aload_n hx hb dX1_value_0 rfl (lv_at hl 0 rfl) ?_
  refine lv_iconst (v := 0) hx hb dX1_value_1 (by decide) ?_
  refine va_put (D := (dC, dI)) (ci := 1) (v := .int 0) (ty := .int) (C := RX1) (T := TX1) (N := 6) hx hb hts hinX1 tyX1 tyX1_ok nmX1 hown hK hP hD hS 0 rfl rfl 4 (by decide) (hts (.fieldLink RX1 25 "MayRings$Law" "top" "I") (List.mem_of_getElem? (i := 1) rfl)) (fun _ h9 => h9) rfl (by decide +kernel) (rfl) (rfl) (Nat.le_of_ble_eq_true rfl) dX1_value_2 (fun H locs hP hD hS => ?_)
  replace hP : va_P (dC, dI) vwCl [(h0, .inr (1, [.ref h1, .ref h2, .ref h3, .int a0, .int 0, .int a2])), (h1, .inl (cI, 360, .inl g0)), (h2, .inl (cI, 40, .inl g1)), (h3, .inl (cI, 16, .inl g2))] H := hP
  replace hD : va_D A [(h0, .inr (1, [.ref h1, .ref h2, .ref h3, .int a0, .int 0, .int a2])), (h1, .inl (cI, 360, .inl g0)), (h2, .inl (cI, 40, .inl g1)), (h3, .inl (cI, 16, .inl g2))] := hD
  refine lv_iconst (v := 0) hx hb dX1_value_5 (by decide) ?_
  refine lv_istore_n (lv' := [(1, .int 0), (0, .ref h0)]) hx hb dX1_value_6 rfl hl (by decide) rfl (fun ls hl => ?_)
  refine W_loopM (σ := (Nat → Int32) × Int32 × Int32) (fun u H locs ls => va_P (dC, dI) vwCl [(h0, .inr (1, [.ref h1, .ref h2, .ref h3, .int a0, .int u.2.2, .int a2])), (h1, .inl (cI, 360, .inl g0)), (h2, .inl (cI, 40, .inl u.1)), (h3, .inl (cI, 16, .inl g2))] H ∧ va_D A [(h0, .inr (1, [.ref h1, .ref h2, .ref h3, .int a0, .int u.2.2, .int a2])), (h1, .inl (cI, 360, .inl g0)), (h2, .inl (cI, 40, .inl u.1)), (h3, .inl (cI, 16, .inl g2))] ∧ va_S A s.heap H locs ∧ lv_has ls 4 [(1, .int u.2.1), (0, .ref h0)] ∧ rg (0) (360) u.2.1 ∧ rg (0) (40) u.2.2) (fun u => ((360) - u.2.1.toInt).toNat) 7 [] ?_ (g1, 0, 0) H locs ls ⟨hP, hD, hS, hl, (rg_mono (rg_k (x := 0) (c := 0) (by decide)) (by decide) (by decide)), (rg_mono (rg_k (x := 0) (c := 0) (by decide)) (by decide) (by decide))⟩
  rintro ⟨f_2199, x_2200, x_2201⟩ H locs ls ⟨hP, hD, hS, hl, hx_2200, hx_2201⟩ ih_2268
  replace hP : va_P (dC, dI) vwCl [(h0, .inr (1, [.ref h1, .ref h2, .ref h3, .int a0, .int x_2201, .int a2])), (h1, .inl (cI, 360, .inl g0)), (h2, .inl (cI, 40, .inl f_2199)), (h3, .inl (cI, 16, .inl g2))] H := hP
  replace hD : va_D A [(h0, .inr (1, [.ref h1, .ref h2, .ref h3, .int a0, .int x_2201, .int a2])), (h1, .inl (cI, 360, .inl g0)), (h2, .inl (cI, 40, .inl f_2199)), (h3, .inl (cI, 16, .inl g2))] := hD
  replace hl : lv_has ls 4 [(1, .int x_2200), (0, .ref h0)] := hl
  replace hx_2200 : rg (0) (360) x_2200 := hx_2200
  replace hx_2201 : rg (0) (40) x_2201 := hx_2201
  refine lv_iload_n hx hb dX1_value_7 rfl (lv_at hl 0 rfl) ?_
  refine lv_aload_n hx hb dX1_value_8 rfl (lv_at hl 1 rfl) ?_
  refine va_get (D := (dC, dI)) (ci := 1) (v := .int a0) (C := RX1) (T := TX1) (N := 6) hx hb hts hinX1 hown hK hP 0 rfl rfl 3 (by decide) (hts (.fieldLink RX1 21 "MayRings$Law" "length" "I") (List.mem_of_getElem? (i := 2) rfl)) (fun _ h9 => h9) rfl dX1_value_9 ?_
  refine lv_icmp_ge (tgt := 120) hx hb dX1_value_12 (by decide) (fun c_2269 => ?_) (fun c_2269 => ?_)
  · skip
    refine lv_aload_n hx hb dX1_value_120 rfl (lv_at hl 1 rfl) ?_
    have hPc := hP.sub (ws' := [(h0, .inr (1, [.ref h1, .ref h2, .ref h3, .int a0, .int x_2201, .int a2])), (h2, .inl (cI, 40, .inl f_2199))]) [0, 2] rfl
    have hDc := hD.sub (ws' := [(h0, .inr (1, [.ref h1, .ref h2, .ref h3, .int a0, .int x_2201, .int a2])), (h2, .inl (cI, 40, .inl f_2199))]) [0, 2] (by decide) rfl
    have hFc := va_free (wc := [(h0, .inr (1, [.ref h1, .ref h2, .ref h3, .int a0, .int x_2201, .int a2])), (h2, .inl (cI, 40, .inl f_2199))]) hD hS hA [0, 2] rfl
    refine va_calli (va_runV (As := []) (rest := []) ⟨hx, hb, hml, hown, hts⟩ (c_s_X1_pop l dC dI cB cI cJ cZ cP h0 h1 h2 f_2199 h3 a0 x_2201 (rg_mono hx_2201 (by decide) (by decide)) a2 H.size) (cwV 0 hts (gd_V (List.mem_of_getElem? (i := 3) rfl) (List.mem_of_getElem? (i := 4) rfl) (List.mem_of_getElem? (i := 5) rfl) (List.mem_of_getElem? (i := 6) rfl) (gd_mono k_s_X1_pop (fun _ h => List.mem_cons_of_mem _ (List.mem_append_right _ (List.mem_append_right _ (List.mem_append_left _ h)))))) rfl rfl rfl (by decide +kernel) ⟨Nat.le_of_ble_eq_true rfl, Nat.le_of_ble_eq_true rfl⟩) ⟨fun a U g mk q => by obtain ⟨q0, q1, qP, qK, qD⟩ := q; exact ⟨q0, q1, qP, va_K.moved (u := U) (U := U.calling g mk a) (Vm.Alike.refl U.vm) qK, qD⟩, va_recv hK hPc (ci := 1) (q0 := 0) rfl rfl, fun U hU hW => ⟨rfl, by rw [hU], by rw [hU]; exact hPc, va_K.moved hW.alike hK, hDc.weaken (fun _ _ _ _ => trivial)⟩⟩ rfl rfl hl.1 rfl (lv_room (Nat.le_of_ble_eq_true rfl)) dX1_value_121 ⟨Nat.le_of_ble_eq_true rfl, Nat.le_of_ble_eq_true rfl⟩) hS (fun q _ h => hFc q h) hFc (fun r_2270 u t H1 locs ht hvm hw hB hz1 hk1 hS => ?_)
    obtain ⟨x_2271, hx_2271, hP1, hD1⟩ := hB
    rw [ht] at hP1
    obtain ⟨hP, hD⟩ := va_join (wr := [(h1, .inl (cI, 360, .inl g0)), (h3, .inl (cI, 16, .inl g2))]) (w1 := [(h0, .inr (1, [.ref h1, .ref h2, .ref h3, .int a0, .int x_2271, .int a2])), (h2, .inl (cI, 40, .inl f_2199))]) hP hD [0, 2] [1, 3] rfl rfl (by decide) (by decide) hk1 hFc hP1 hD1
    generalize H1 = H at hP hS ⊢
    replace hP : va_P (dC, dI) vwCl [(h1, .inl (cI, 360, .inl g0)), (h3, .inl (cI, 16, .inl g2)), (h0, .inr (1, [.ref h1, .ref h2, .ref h3, .int a0, .int x_2271, .int a2])), (h2, .inl (cI, 40, .inl f_2199))] H := hP
    replace hD : va_D A [(h1, .inl (cI, 360, .inl g0)), (h3, .inl (cI, 16, .inl g2)), (h0, .inr (1, [.ref h1, .ref h2, .ref h3, .int a0, .int x_2271, .int a2])), (h2, .inl (cI, 40, .inl f_2199))] := hD
    have hP9 := hP.sub (ws' := [(h0, .inr (1, [.ref h1, .ref h2, .ref h3, .int a0, .int x_2271, .int a2])), (h1, .inl (cI, 360, .inl g0)), (h2, .inl (cI, 40, .inl f_2199)), (h3, .inl (cI, 16, .inl g2))]) [2, 0, 3, 1] rfl
    have hD9 := hD.sub (ws' := [(h0, .inr (1, [.ref h1, .ref h2, .ref h3, .int a0, .int x_2271, .int a2])), (h1, .inl (cI, 360, .inl g0)), (h2, .inl (cI, 40, .inl f_2199)), (h3, .inl (cI, 16, .inl g2))]) [2, 0, 3, 1] (by decide) rfl
    exact W.iret (v := r_2270) hx hb hr (fun t ht hW => ⟨⟨r_2270, (), rfl, trivial, ⟨x_2271, f_2199, (rg_mono hx_2271 (by decide) (by decide)), by rw [ht]; exact hP9, hD9⟩⟩, hS.F ht⟩) hS.2.2 dX1_value_124
  · skip
    have h_2272 : rg (0) (359) x_2200 := by have ha := hx_2200; have hb_ := ha0; simp only [rg, fa_lt, fa_le, fa_eq] at ha hb_ c_2269; simp only [rg]; omega
    have h_2273 : rg (1) (360) a0 := by have ha := hx_2200; have hb_ := ha0; simp only [rg, fa_lt, fa_le, fa_eq] at ha hb_ c_2269; simp only [rg]; omega
    refine lv_aload_n hx hb dX1_value_15 rfl (lv_at hl 1 rfl) ?_
    refine va_get (D := (dC, dI)) (ci := 1) (v := .ref h1) (C := RX1) (T := TX1) (N := 6) hx hb hts hinX1 hown hK hP 0 rfl rfl 0 (by decide) (hts (.fieldLink RX1 11 "MayRings$Law" "codes" "[I") (List.mem_of_getElem? (i := 7) rfl)) (fun _ h9 => h9) rfl dX1_value_16 ?_
    refine lv_iload_n hx hb dX1_value_19 rfl (lv_at hl 0 rfl) ?_
    refine va_iald hx hb hK hP 1 1 rfl rfl (rg_in (n := 360) (rg_mono h_2272 (by decide) (by decide))) dX1_value_20 ?_
    refine lv_topi (fun x_2274 ex_2274 => ?_)
    refine lv_ineg hx hb dX1_value_21 ?_
    refine lv_topi (fun x_2275 ex_2275 => ?_)
    clear ex_2275
    refine lv_istore_n (lv' := [(2, .int x_2275), (1, .int x_2200), (0, .ref h0)]) hx hb dX1_value_22 rfl hl (by decide) rfl (fun ls hl => ?_)
    refine lv_iload_n hx hb dX1_value_23 rfl (lv_at hl 0 rfl) ?_
    refine lv_if_gt (tgt := 40) hx hb dX1_value_24 (by decide) (fun c_2276 => ?_) (fun c_2276 => ?_)
    · skip
      have h_2277 : rg (1) (2147483647) x_2275 := by have ha := (rg_any x_2275); have hb_ := (rg_k (x := 0) (c := 0) (by decide)); simp only [rg, fa_lt, fa_le, fa_eq, (by decide : (0 : Int32).toInt = 0)] at ha hb_ c_2276; simp only [rg]; omega
      refine lv_iload_n hx hb dX1_value_40 rfl (lv_at hl 0 rfl) ?_
      refine lv_bipush (v := 6) hx hb dX1_value_41 (by decide) ?_
      refine lv_icmp_eq (tgt := 58) hx hb dX1_value_43 (by decide) (fun c_2278 => ?_) (fun c_2278 => ?_)
      · skip
        have h_2279 : rg (6) (6) x_2275 := by have ha := h_2277; have hb_ := (rg_k (x := 6) (c := 6) (by decide)); simp only [rg, fa_lt, fa_le, fa_eq, (by decide : (6 : Int32).toInt = 6)] at ha hb_ c_2278; simp only [rg]; omega
        refine lv_aload_n hx hb dX1_value_58 rfl (lv_at hl 2 rfl) ?_
        refine lv_aload_n hx hb dX1_value_59 rfl (lv_at hl 2 rfl) ?_
        refine va_get (D := (dC, dI)) (ci := 1) (v := .ref h3) (C := RX1) (T := TX1) (N := 6) hx hb hts hinX1 hown hK hP 0 rfl rfl 2 (by decide) (hts (.fieldLink RX1 18 "MayRings$Law" "facts" "[I") (List.mem_of_getElem? (i := 8) rfl)) (fun _ h9 => h9) rfl dX1_value_60 ?_
        refine lv_iload_n hx hb dX1_value_63 rfl (lv_at hl 0 rfl) ?_
        refine va_iald hx hb hK hP 3 1 rfl rfl (rg_in (n := 16) (rg_mono h_2279 (by decide) (by decide))) dX1_value_64 ?_
        refine lv_topi (fun x_2280 ex_2280 => ?_)
        have hPc := hP.sub (ws' := [(h0, .inr (1, [.ref h1, .ref h2, .ref h3, .int a0, .int x_2201, .int a2])), (h2, .inl (cI, 40, .inl f_2199))]) [0, 2] rfl
        have hDc := hD.sub (ws' := [(h0, .inr (1, [.ref h1, .ref h2, .ref h3, .int a0, .int x_2201, .int a2])), (h2, .inl (cI, 40, .inl f_2199))]) [0, 2] (by decide) rfl
        have hFc := va_free (wc := [(h0, .inr (1, [.ref h1, .ref h2, .ref h3, .int a0, .int x_2201, .int a2])), (h2, .inl (cI, 40, .inl f_2199))]) hD hS hA [0, 2] rfl
        refine va_callv (va_runV (As := [.int x_2280]) (rest := []) ⟨hx, hb, hml, hown, hts⟩ (c_s_X1_push l dC dI cB cI cJ cZ cP h0 h1 h2 f_2199 h3 a0 x_2201 (rg_mono hx_2201 (by decide) (by decide)) a2 x_2280 H.size) (cwV 1 hts (gd_V (List.mem_of_getElem? (i := 9) rfl) (List.mem_of_getElem? (i := 10) rfl) (List.mem_of_getElem? (i := 11) rfl) (List.mem_of_getElem? (i := 6) rfl) (gd_mono k_s_X1_push (fun _ h => List.mem_cons_of_mem _ (List.mem_append_right _ (List.mem_append_right _ (List.mem_append_right _ (List.mem_append_left _ h))))))) rfl rfl rfl (by decide +kernel) ⟨Nat.le_of_ble_eq_true rfl, Nat.le_of_ble_eq_true rfl⟩) ⟨fun a U g mk q => by obtain ⟨q0, q1, qP, qK, qD⟩ := q; exact ⟨q0, q1, qP, va_K.moved (u := U) (U := U.calling g mk a) (Vm.Alike.refl U.vm) qK, qD⟩, va_recv hK hPc (ci := 1) (q0 := 0) rfl rfl, fun U hU hW => ⟨rfl, by rw [hU], by rw [hU]; exact hPc, va_K.moved hW.alike hK, hDc.weaken (fun _ _ _ _ => trivial)⟩⟩ rfl rfl hl.1 rfl (lv_room (Nat.le_of_ble_eq_true rfl)) dX1_value_65 ⟨Nat.le_of_ble_eq_true rfl, Nat.le_of_ble_eq_true rfl⟩) hS (fun q _ h => hFc q h) hFc (fun u t H1 locs ht hvm hw hB hz1 hk1 hS => ?_)
        obtain ⟨x_2282, f_2283, hx_2282, hP1, hD1⟩ := hB
        rw [ht] at hP1
        obtain ⟨hP, hD⟩ := va_join (wr := [(h1, .inl (cI, 360, .inl g0)), (h3, .inl (cI, 16, .inl g2))]) (w1 := [(h0, .inr (1, [.ref h1, .ref h2, .ref h3, .int a0, .int x_2282, .int a2])), (h2, .inl (cI, 40, .inl f_2283))]) hP hD [0, 2] [1, 3] rfl rfl (by decide) (by decide) hk1 hFc hP1 hD1
        generalize H1 = H at hP hS ⊢
        replace hP : va_P (dC, dI) vwCl [(h1, .inl (cI, 360, .inl g0)), (h3, .inl (cI, 16, .inl g2)), (h0, .inr (1, [.ref h1, .ref h2, .ref h3, .int a0, .int x_2282, .int a2])), (h2, .inl (cI, 40, .inl f_2283))] H := hP
        replace hD : va_D A [(h1, .inl (cI, 360, .inl g0)), (h3, .inl (cI, 16, .inl g2)), (h0, .inr (1, [.ref h1, .ref h2, .ref h3, .int a0, .int x_2282, .int a2])), (h2, .inl (cI, 40, .inl f_2283))] := hD
        refine lv_goto (tgt := 114) hx hb dX1_value_68 (by decide) ?_
        obtain ⟨x_2284, ex_2284⟩ : ∃ y : Int32, y = x_2200 + Int32.ofInt (1) := ⟨_, rfl⟩
        have hx_2284 : rg (1) (360) x_2284 := by rw [ex_2284]; exact rg_mono (rg_add h_2272 (rg_k (x := Int32.ofInt (1)) (c := 1) (by decide)) (by decide) (by decide)) (by decide) (by decide)
        have qx_2284 : x_2284.toInt = x_2200.toInt + (1) := by rw [ex_2284]; exact rg_addE h_2272 (rg_k (x := Int32.ofInt (1)) (c := 1) (by decide)) (by decide) (by decide) (by decide)
        refine lv_iinc (v := x_2284) (lv' := [(1, .int x_2284), (2, .int x_2275), (0, .ref h0)]) hx hb dX1_value_114 hl (k := 1) rfl (ex_2284.symm) (by decide) rfl (fun ls hl => ?_)
        clear ex_2284
        refine lv_goto (tgt := 7) hx hb dX1_value_117 (by decide) ?_
        exact ih_2268 (f_2283, x_2284, x_2282) H locs ls ⟨hP.sub (ws' := [(h0, .inr (1, [.ref h1, .ref h2, .ref h3, .int a0, .int x_2282, .int a2])), (h1, .inl (cI, 360, .inl g0)), (h2, .inl (cI, 40, .inl f_2283)), (h3, .inl (cI, 16, .inl g2))]) [2, 0, 3, 1] rfl, hD.sub (ws' := [(h0, .inr (1, [.ref h1, .ref h2, .ref h3, .int a0, .int x_2282, .int a2])), (h1, .inl (cI, 360, .inl g0)), (h2, .inl (cI, 40, .inl f_2283)), (h3, .inl (cI, 16, .inl g2))]) [2, 0, 3, 1] (by decide) rfl, hS, lv_sub hl [0, 2] rfl, (rg_mono hx_2284 (by decide) (by decide)), (rg_mono hx_2282 (by decide) (by decide))⟩ (by show ((360) - x_2284.toInt).toNat < ((360) - x_2200.toInt).toNat; have ha := h_2272; simp only [rg] at ha; omega)
      · skip
        refine lv_iload_n hx hb dX1_value_46 rfl (lv_at hl 0 rfl) ?_
        refine lv_bipush (v := 12) hx hb dX1_value_47 (by decide) ?_
        refine lv_icmp_lt (tgt := 71) hx hb dX1_value_49 (by decide) (fun c_2285 => ?_) (fun c_2285 => ?_)
        · skip
          have h_2286 : rg (1) (11) x_2275 := by have ha := h_2277; have hb_ := (rg_k (x := 12) (c := 12) (by decide)); simp only [rg, fa_lt, fa_le, fa_eq, (by decide : (12 : Int32).toInt = 12)] at ha hb_ c_2285; simp only [rg]; omega
          refine lv_iload_n hx hb dX1_value_71 rfl (lv_at hl 0 rfl) ?_
          refine lv_bipush (v := 11) hx hb dX1_value_72 (by decide) ?_
          refine lv_icmp_ne (tgt := 96) hx hb dX1_value_74 (by decide) (fun c_2287 => ?_) (fun c_2287 => ?_)
          · skip
            have h_2288 : rg (1) (10) x_2275 := by have ha := h_2286; have hb_ := (rg_k (x := 11) (c := 11) (by decide)); simp only [rg, fa_lt, fa_le, fa_eq, (by decide : (11 : Int32).toInt = 11)] at ha hb_ c_2287; simp only [rg]; omega
            refine lv_aload_n hx hb dX1_value_96 rfl (lv_at hl 2 rfl) ?_
            have hPc := hP.sub (ws' := [(h0, .inr (1, [.ref h1, .ref h2, .ref h3, .int a0, .int x_2201, .int a2])), (h2, .inl (cI, 40, .inl f_2199))]) [0, 2] rfl
            have hDc := hD.sub (ws' := [(h0, .inr (1, [.ref h1, .ref h2, .ref h3, .int a0, .int x_2201, .int a2])), (h2, .inl (cI, 40, .inl f_2199))]) [0, 2] (by decide) rfl
            have hFc := va_free (wc := [(h0, .inr (1, [.ref h1, .ref h2, .ref h3, .int a0, .int x_2201, .int a2])), (h2, .inl (cI, 40, .inl f_2199))]) hD hS hA [0, 2] rfl
            refine va_calli (va_runV (As := []) (rest := []) ⟨hx, hb, hml, hown, hts⟩ (c_s_X1_pop l dC dI cB cI cJ cZ cP h0 h1 h2 f_2199 h3 a0 x_2201 (rg_mono hx_2201 (by decide) (by decide)) a2 H.size) (cwV 0 hts (gd_V (List.mem_of_getElem? (i := 3) rfl) (List.mem_of_getElem? (i := 4) rfl) (List.mem_of_getElem? (i := 5) rfl) (List.mem_of_getElem? (i := 6) rfl) (gd_mono k_s_X1_pop (fun _ h => List.mem_cons_of_mem _ (List.mem_append_right _ (List.mem_append_right _ (List.mem_append_left _ h)))))) rfl rfl rfl (by decide +kernel) ⟨Nat.le_of_ble_eq_true rfl, Nat.le_of_ble_eq_true rfl⟩) ⟨fun a U g mk q => by obtain ⟨q0, q1, qP, qK, qD⟩ := q; exact ⟨q0, q1, qP, va_K.moved (u := U) (U := U.calling g mk a) (Vm.Alike.refl U.vm) qK, qD⟩, va_recv hK hPc (ci := 1) (q0 := 0) rfl rfl, fun U hU hW => ⟨rfl, by rw [hU], by rw [hU]; exact hPc, va_K.moved hW.alike hK, hDc.weaken (fun _ _ _ _ => trivial)⟩⟩ rfl rfl hl.1 rfl (lv_room (Nat.le_of_ble_eq_true rfl)) dX1_value_97 ⟨Nat.le_of_ble_eq_true rfl, Nat.le_of_ble_eq_true rfl⟩) hS (fun q _ h => hFc q h) hFc (fun r_2289 u t H1 locs ht hvm hw hB hz1 hk1 hS => ?_)
            obtain ⟨x_2290, hx_2290, hP1, hD1⟩ := hB
            rw [ht] at hP1
            obtain ⟨hP, hD⟩ := va_join (wr := [(h1, .inl (cI, 360, .inl g0)), (h3, .inl (cI, 16, .inl g2))]) (w1 := [(h0, .inr (1, [.ref h1, .ref h2, .ref h3, .int a0, .int x_2290, .int a2])), (h2, .inl (cI, 40, .inl f_2199))]) hP hD [0, 2] [1, 3] rfl rfl (by decide) (by decide) hk1 hFc hP1 hD1
            generalize H1 = H at hP hS ⊢
            replace hP : va_P (dC, dI) vwCl [(h1, .inl (cI, 360, .inl g0)), (h3, .inl (cI, 16, .inl g2)), (h0, .inr (1, [.ref h1, .ref h2, .ref h3, .int a0, .int x_2290, .int a2])), (h2, .inl (cI, 40, .inl f_2199))] H := hP
            replace hD : va_D A [(h1, .inl (cI, 360, .inl g0)), (h3, .inl (cI, 16, .inl g2)), (h0, .inr (1, [.ref h1, .ref h2, .ref h3, .int a0, .int x_2290, .int a2])), (h2, .inl (cI, 40, .inl f_2199))] := hD
            refine lv_istore_n (lv' := [(3, .int r_2289), (2, .int x_2275), (1, .int x_2200), (0, .ref h0)]) hx hb dX1_value_100 rfl hl (by decide) rfl (fun ls hl => ?_)
            refine lv_aload_n hx hb dX1_value_101 rfl (lv_at hl 3 rfl) ?_
            refine lv_iload_n hx hb dX1_value_102 rfl (lv_at hl 1 rfl) ?_
            refine lv_aload_n hx hb dX1_value_103 rfl (lv_at hl 3 rfl) ?_
            have hPc := hP.sub (ws' := [(h0, .inr (1, [.ref h1, .ref h2, .ref h3, .int a0, .int x_2290, .int a2])), (h2, .inl (cI, 40, .inl f_2199))]) [2, 3] rfl
            have hDc := hD.sub (ws' := [(h0, .inr (1, [.ref h1, .ref h2, .ref h3, .int a0, .int x_2290, .int a2])), (h2, .inl (cI, 40, .inl f_2199))]) [2, 3] (by decide) rfl
            have hFc := va_free (wc := [(h0, .inr (1, [.ref h1, .ref h2, .ref h3, .int a0, .int x_2290, .int a2])), (h2, .inl (cI, 40, .inl f_2199))]) hD hS hA [2, 3] rfl
            refine va_calli (va_runV (As := []) (rest := [.int x_2275, .ref h0]) ⟨hx, hb, hml, hown, hts⟩ (c_s_X1_pop l dC dI cB cI cJ cZ cP h0 h1 h2 f_2199 h3 a0 x_2290 (rg_mono hx_2290 (by decide) (by decide)) a2 H.size) (cwV 0 hts (gd_V (List.mem_of_getElem? (i := 3) rfl) (List.mem_of_getElem? (i := 4) rfl) (List.mem_of_getElem? (i := 5) rfl) (List.mem_of_getElem? (i := 6) rfl) (gd_mono k_s_X1_pop (fun _ h => List.mem_cons_of_mem _ (List.mem_append_right _ (List.mem_append_right _ (List.mem_append_left _ h)))))) rfl rfl rfl (by decide +kernel) ⟨Nat.le_of_ble_eq_true rfl, Nat.le_of_ble_eq_true rfl⟩) ⟨fun a U g mk q => by obtain ⟨q0, q1, qP, qK, qD⟩ := q; exact ⟨q0, q1, qP, va_K.moved (u := U) (U := U.calling g mk a) (Vm.Alike.refl U.vm) qK, qD⟩, va_recv hK hPc (ci := 1) (q0 := 0) rfl rfl, fun U hU hW => ⟨rfl, by rw [hU], by rw [hU]; exact hPc, va_K.moved hW.alike hK, hDc.weaken (fun _ _ _ _ => trivial)⟩⟩ rfl rfl hl.1 rfl (lv_room (Nat.le_of_ble_eq_true rfl)) dX1_value_104 ⟨Nat.le_of_ble_eq_true rfl, Nat.le_of_ble_eq_true rfl⟩) hS (fun q _ h => hFc q h) hFc (fun r_2291 u t H1 locs ht hvm hw hB hz1 hk1 hS => ?_)
            obtain ⟨x_2292, hx_2292, hP1, hD1⟩ := hB
            rw [ht] at hP1
            obtain ⟨hP, hD⟩ := va_join (wr := [(h1, .inl (cI, 360, .inl g0)), (h3, .inl (cI, 16, .inl g2))]) (w1 := [(h0, .inr (1, [.ref h1, .ref h2, .ref h3, .int a0, .int x_2292, .int a2])), (h2, .inl (cI, 40, .inl f_2199))]) hP hD [2, 3] [0, 1] rfl rfl (by decide) (by decide) hk1 hFc hP1 hD1
            generalize H1 = H at hP hS ⊢
            replace hP : va_P (dC, dI) vwCl [(h1, .inl (cI, 360, .inl g0)), (h3, .inl (cI, 16, .inl g2)), (h0, .inr (1, [.ref h1, .ref h2, .ref h3, .int a0, .int x_2292, .int a2])), (h2, .inl (cI, 40, .inl f_2199))] H := hP
            replace hD : va_D A [(h1, .inl (cI, 360, .inl g0)), (h3, .inl (cI, 16, .inl g2)), (h0, .inr (1, [.ref h1, .ref h2, .ref h3, .int a0, .int x_2292, .int a2])), (h2, .inl (cI, 40, .inl f_2199))] := hD
            refine lv_iload_n hx hb dX1_value_107 rfl (lv_at hl 0 rfl) ?_
            have hPc := hP.sub (ws' := []) [] rfl
            have hDc := hD.sub (ws' := []) [] (by decide) rfl
            have hFc := va_free (wc := []) hD hS hA [] rfl
            refine va_calli (va_runS (As := [.int x_2275, .int r_2291, .int r_2289]) (rest := [.ref h0]) ⟨hx, hb, hml, hown, hts⟩ (c_s_X1_joined l dC dI cB cI cJ cZ cP x_2275 r_2291 r_2289 H.size) (va_cwS 3 hts (gd_S (List.mem_of_getElem? (i := 12) rfl) (List.mem_of_getElem? (i := 13) rfl) (List.mem_of_getElem? (i := 6) rfl) (gd_mono k_s_X1_joined (fun _ h => List.mem_cons_of_mem _ (List.mem_append_right _ (List.mem_append_right _ (List.mem_append_right _ (List.mem_append_right _ (List.mem_append_left _ h)))))))) rfl rfl rfl (by decide +kernel) ⟨Nat.le_of_ble_eq_true rfl, Nat.le_of_ble_eq_true rfl⟩) ⟨fun a U g mk q => by obtain ⟨q0, q1, qP, qK, qD⟩ := q; exact ⟨q0, q1, qP, va_K.moved (u := U) (U := U.calling g mk a) (Vm.Alike.refl U.vm) qK, qD⟩, fun U hU hW => ⟨rfl, by rw [hU], by rw [hU]; exact hPc, va_K.moved hW.alike hK, hDc.weaken (fun _ _ _ _ => trivial)⟩⟩ rfl rfl hl.1 rfl (lv_room (Nat.le_of_ble_eq_true rfl)) dX1_value_108 ⟨Nat.le_of_ble_eq_true rfl, Nat.le_of_ble_eq_true rfl⟩) hS (fun q _ h => hFc q h) hFc (fun r_2293 u t H1 locs ht hvm hw hB hz1 hk1 hS => ?_)
            obtain ⟨hP1, hD1⟩ := hB
            rw [ht] at hP1
            obtain ⟨hP, hD⟩ := va_join (wr := [(h1, .inl (cI, 360, .inl g0)), (h3, .inl (cI, 16, .inl g2)), (h0, .inr (1, [.ref h1, .ref h2, .ref h3, .int a0, .int x_2292, .int a2])), (h2, .inl (cI, 40, .inl f_2199))]) (w1 := []) hP hD [] [0, 1, 2, 3] rfl rfl (by decide) (by decide) hk1 hFc hP1 hD1
            generalize H1 = H at hP hS ⊢
            replace hP : va_P (dC, dI) vwCl [(h1, .inl (cI, 360, .inl g0)), (h3, .inl (cI, 16, .inl g2)), (h0, .inr (1, [.ref h1, .ref h2, .ref h3, .int a0, .int x_2292, .int a2])), (h2, .inl (cI, 40, .inl f_2199))] H := hP
            replace hD : va_D A [(h1, .inl (cI, 360, .inl g0)), (h3, .inl (cI, 16, .inl g2)), (h0, .inr (1, [.ref h1, .ref h2, .ref h3, .int a0, .int x_2292, .int a2])), (h2, .inl (cI, 40, .inl f_2199))] := hD
            have hPc := hP.sub (ws' := [(h0, .inr (1, [.ref h1, .ref h2, .ref h3, .int a0, .int x_2292, .int a2])), (h2, .inl (cI, 40, .inl f_2199))]) [2, 3] rfl
            have hDc := hD.sub (ws' := [(h0, .inr (1, [.ref h1, .ref h2, .ref h3, .int a0, .int x_2292, .int a2])), (h2, .inl (cI, 40, .inl f_2199))]) [2, 3] (by decide) rfl
            have hFc := va_free (wc := [(h0, .inr (1, [.ref h1, .ref h2, .ref h3, .int a0, .int x_2292, .int a2])), (h2, .inl (cI, 40, .inl f_2199))]) hD hS hA [2, 3] rfl
            refine va_callv (va_runV (As := [.int r_2293]) (rest := []) ⟨hx, hb, hml, hown, hts⟩ (c_s_X1_push l dC dI cB cI cJ cZ cP h0 h1 h2 f_2199 h3 a0 x_2292 (rg_mono hx_2292 (by decide) (by decide)) a2 r_2293 H.size) (cwV 1 hts (gd_V (List.mem_of_getElem? (i := 9) rfl) (List.mem_of_getElem? (i := 10) rfl) (List.mem_of_getElem? (i := 11) rfl) (List.mem_of_getElem? (i := 6) rfl) (gd_mono k_s_X1_push (fun _ h => List.mem_cons_of_mem _ (List.mem_append_right _ (List.mem_append_right _ (List.mem_append_right _ (List.mem_append_left _ h))))))) rfl rfl rfl (by decide +kernel) ⟨Nat.le_of_ble_eq_true rfl, Nat.le_of_ble_eq_true rfl⟩) ⟨fun a U g mk q => by obtain ⟨q0, q1, qP, qK, qD⟩ := q; exact ⟨q0, q1, qP, va_K.moved (u := U) (U := U.calling g mk a) (Vm.Alike.refl U.vm) qK, qD⟩, va_recv hK hPc (ci := 1) (q0 := 0) rfl rfl, fun U hU hW => ⟨rfl, by rw [hU], by rw [hU]; exact hPc, va_K.moved hW.alike hK, hDc.weaken (fun _ _ _ _ => trivial)⟩⟩ rfl rfl hl.1 rfl (lv_room (Nat.le_of_ble_eq_true rfl)) dX1_value_111 ⟨Nat.le_of_ble_eq_true rfl, Nat.le_of_ble_eq_true rfl⟩) hS (fun q _ h => hFc q h) hFc (fun u t H1 locs ht hvm hw hB hz1 hk1 hS => ?_)
            obtain ⟨x_2295, f_2296, hx_2295, hP1, hD1⟩ := hB
            rw [ht] at hP1
            obtain ⟨hP, hD⟩ := va_join (wr := [(h1, .inl (cI, 360, .inl g0)), (h3, .inl (cI, 16, .inl g2))]) (w1 := [(h0, .inr (1, [.ref h1, .ref h2, .ref h3, .int a0, .int x_2295, .int a2])), (h2, .inl (cI, 40, .inl f_2296))]) hP hD [2, 3] [0, 1] rfl rfl (by decide) (by decide) hk1 hFc hP1 hD1
            generalize H1 = H at hP hS ⊢
            replace hP : va_P (dC, dI) vwCl [(h1, .inl (cI, 360, .inl g0)), (h3, .inl (cI, 16, .inl g2)), (h0, .inr (1, [.ref h1, .ref h2, .ref h3, .int a0, .int x_2295, .int a2])), (h2, .inl (cI, 40, .inl f_2296))] H := hP
            replace hD : va_D A [(h1, .inl (cI, 360, .inl g0)), (h3, .inl (cI, 16, .inl g2)), (h0, .inr (1, [.ref h1, .ref h2, .ref h3, .int a0, .int x_2295, .int a2])), (h2, .inl (cI, 40, .inl f_2296))] := hD
            obtain ⟨x_2297, ex_2297⟩ : ∃ y : Int32, y = x_2200 + Int32.ofInt (1) := ⟨_, rfl⟩
            have hx_2297 : rg (1) (360) x_2297 := by rw [ex_2297]; exact rg_mono (rg_add h_2272 (rg_k (x := Int32.ofInt (1)) (c := 1) (by decide)) (by decide) (by decide)) (by decide) (by decide)
            have qx_2297 : x_2297.toInt = x_2200.toInt + (1) := by rw [ex_2297]; exact rg_addE h_2272 (rg_k (x := Int32.ofInt (1)) (c := 1) (by decide)) (by decide) (by decide) (by decide)
            refine lv_iinc (v := x_2297) (lv' := [(1, .int x_2297), (3, .int r_2289), (2, .int x_2275), (0, .ref h0)]) hx hb dX1_value_114 hl (k := 2) rfl (ex_2297.symm) (by decide) rfl (fun ls hl => ?_)
            clear ex_2297
            refine lv_goto (tgt := 7) hx hb dX1_value_117 (by decide) ?_
            exact ih_2268 (f_2296, x_2297, x_2295) H locs ls ⟨hP.sub (ws' := [(h0, .inr (1, [.ref h1, .ref h2, .ref h3, .int a0, .int x_2295, .int a2])), (h1, .inl (cI, 360, .inl g0)), (h2, .inl (cI, 40, .inl f_2296)), (h3, .inl (cI, 16, .inl g2))]) [2, 0, 3, 1] rfl, hD.sub (ws' := [(h0, .inr (1, [.ref h1, .ref h2, .ref h3, .int a0, .int x_2295, .int a2])), (h1, .inl (cI, 360, .inl g0)), (h2, .inl (cI, 40, .inl f_2296)), (h3, .inl (cI, 16, .inl g2))]) [2, 0, 3, 1] (by decide) rfl, hS, lv_sub hl [0, 3] rfl, (rg_mono hx_2297 (by decide) (by decide)), (rg_mono hx_2295 (by decide) (by decide))⟩ (by show ((360) - x_2297.toInt).toNat < ((360) - x_2200.toInt).toNat; have ha := h_2272; simp only [rg] at ha; omega)
          · skip
            have h_2298 : rg (11) (11) x_2275 := by have ha := h_2286; have hb_ := (rg_k (x := 11) (c := 11) (by decide)); simp only [rg, fa_lt, fa_le, fa_eq, (by decide : (11 : Int32).toInt = 11)] at ha hb_ c_2287; simp only [rg]; omega
            refine lv_aload_n hx hb dX1_value_77 rfl (lv_at hl 2 rfl) ?_
            refine lv_aload_n hx hb dX1_value_78 rfl (lv_at hl 2 rfl) ?_
            have hPc := hP.sub (ws' := [(h0, .inr (1, [.ref h1, .ref h2, .ref h3, .int a0, .int x_2201, .int a2])), (h2, .inl (cI, 40, .inl f_2199))]) [0, 2] rfl
            have hDc := hD.sub (ws' := [(h0, .inr (1, [.ref h1, .ref h2, .ref h3, .int a0, .int x_2201, .int a2])), (h2, .inl (cI, 40, .inl f_2199))]) [0, 2] (by decide) rfl
            have hFc := va_free (wc := [(h0, .inr (1, [.ref h1, .ref h2, .ref h3, .int a0, .int x_2201, .int a2])), (h2, .inl (cI, 40, .inl f_2199))]) hD hS hA [0, 2] rfl
            refine va_calli (va_runV (As := []) (rest := [.ref h0]) ⟨hx, hb, hml, hown, hts⟩ (c_s_X1_pop l dC dI cB cI cJ cZ cP h0 h1 h2 f_2199 h3 a0 x_2201 (rg_mono hx_2201 (by decide) (by decide)) a2 H.size) (cwV 0 hts (gd_V (List.mem_of_getElem? (i := 3) rfl) (List.mem_of_getElem? (i := 4) rfl) (List.mem_of_getElem? (i := 5) rfl) (List.mem_of_getElem? (i := 6) rfl) (gd_mono k_s_X1_pop (fun _ h => List.mem_cons_of_mem _ (List.mem_append_right _ (List.mem_append_right _ (List.mem_append_left _ h)))))) rfl rfl rfl (by decide +kernel) ⟨Nat.le_of_ble_eq_true rfl, Nat.le_of_ble_eq_true rfl⟩) ⟨fun a U g mk q => by obtain ⟨q0, q1, qP, qK, qD⟩ := q; exact ⟨q0, q1, qP, va_K.moved (u := U) (U := U.calling g mk a) (Vm.Alike.refl U.vm) qK, qD⟩, va_recv hK hPc (ci := 1) (q0 := 0) rfl rfl, fun U hU hW => ⟨rfl, by rw [hU], by rw [hU]; exact hPc, va_K.moved hW.alike hK, hDc.weaken (fun _ _ _ _ => trivial)⟩⟩ rfl rfl hl.1 rfl (lv_room (Nat.le_of_ble_eq_true rfl)) dX1_value_79 ⟨Nat.le_of_ble_eq_true rfl, Nat.le_of_ble_eq_true rfl⟩) hS (fun q _ h => hFc q h) hFc (fun r_2299 u t H1 locs ht hvm hw hB hz1 hk1 hS => ?_)
            obtain ⟨x_2300, hx_2300, hP1, hD1⟩ := hB
            rw [ht] at hP1
            obtain ⟨hP, hD⟩ := va_join (wr := [(h1, .inl (cI, 360, .inl g0)), (h3, .inl (cI, 16, .inl g2))]) (w1 := [(h0, .inr (1, [.ref h1, .ref h2, .ref h3, .int a0, .int x_2300, .int a2])), (h2, .inl (cI, 40, .inl f_2199))]) hP hD [0, 2] [1, 3] rfl rfl (by decide) (by decide) hk1 hFc hP1 hD1
            generalize H1 = H at hP hS ⊢
            replace hP : va_P (dC, dI) vwCl [(h1, .inl (cI, 360, .inl g0)), (h3, .inl (cI, 16, .inl g2)), (h0, .inr (1, [.ref h1, .ref h2, .ref h3, .int a0, .int x_2300, .int a2])), (h2, .inl (cI, 40, .inl f_2199))] H := hP
            replace hD : va_D A [(h1, .inl (cI, 360, .inl g0)), (h3, .inl (cI, 16, .inl g2)), (h0, .inr (1, [.ref h1, .ref h2, .ref h3, .int a0, .int x_2300, .int a2])), (h2, .inl (cI, 40, .inl f_2199))] := hD
            refine lv_if_ne (tgt := 89) hx hb dX1_value_82 (by decide) (fun c_2301 => ?_) (fun c_2301 => ?_)
            · skip
              refine lv_iconst (v := 0) hx hb dX1_value_89 (by decide) ?_
              have hPc := hP.sub (ws' := [(h0, .inr (1, [.ref h1, .ref h2, .ref h3, .int a0, .int x_2300, .int a2])), (h2, .inl (cI, 40, .inl f_2199))]) [2, 3] rfl
              have hDc := hD.sub (ws' := [(h0, .inr (1, [.ref h1, .ref h2, .ref h3, .int a0, .int x_2300, .int a2])), (h2, .inl (cI, 40, .inl f_2199))]) [2, 3] (by decide) rfl
              have hFc := va_free (wc := [(h0, .inr (1, [.ref h1, .ref h2, .ref h3, .int a0, .int x_2300, .int a2])), (h2, .inl (cI, 40, .inl f_2199))]) hD hS hA [2, 3] rfl
              refine va_callv (va_runV (As := [.int 0]) (rest := []) ⟨hx, hb, hml, hown, hts⟩ (c_s_X1_push l dC dI cB cI cJ cZ cP h0 h1 h2 f_2199 h3 a0 x_2300 (rg_mono hx_2300 (by decide) (by decide)) a2 0 H.size) (cwV 1 hts (gd_V (List.mem_of_getElem? (i := 9) rfl) (List.mem_of_getElem? (i := 10) rfl) (List.mem_of_getElem? (i := 11) rfl) (List.mem_of_getElem? (i := 6) rfl) (gd_mono k_s_X1_push (fun _ h => List.mem_cons_of_mem _ (List.mem_append_right _ (List.mem_append_right _ (List.mem_append_right _ (List.mem_append_left _ h))))))) rfl rfl rfl (by decide +kernel) ⟨Nat.le_of_ble_eq_true rfl, Nat.le_of_ble_eq_true rfl⟩) ⟨fun a U g mk q => by obtain ⟨q0, q1, qP, qK, qD⟩ := q; exact ⟨q0, q1, qP, va_K.moved (u := U) (U := U.calling g mk a) (Vm.Alike.refl U.vm) qK, qD⟩, va_recv hK hPc (ci := 1) (q0 := 0) rfl rfl, fun U hU hW => ⟨rfl, by rw [hU], by rw [hU]; exact hPc, va_K.moved hW.alike hK, hDc.weaken (fun _ _ _ _ => trivial)⟩⟩ rfl rfl hl.1 rfl (lv_room (Nat.le_of_ble_eq_true rfl)) dX1_value_90 ⟨Nat.le_of_ble_eq_true rfl, Nat.le_of_ble_eq_true rfl⟩) hS (fun q _ h => hFc q h) hFc (fun u t H1 locs ht hvm hw hB hz1 hk1 hS => ?_)
              obtain ⟨x_2303, f_2304, hx_2303, hP1, hD1⟩ := hB
              rw [ht] at hP1
              obtain ⟨hP, hD⟩ := va_join (wr := [(h1, .inl (cI, 360, .inl g0)), (h3, .inl (cI, 16, .inl g2))]) (w1 := [(h0, .inr (1, [.ref h1, .ref h2, .ref h3, .int a0, .int x_2303, .int a2])), (h2, .inl (cI, 40, .inl f_2304))]) hP hD [2, 3] [0, 1] rfl rfl (by decide) (by decide) hk1 hFc hP1 hD1
              generalize H1 = H at hP hS ⊢
              replace hP : va_P (dC, dI) vwCl [(h1, .inl (cI, 360, .inl g0)), (h3, .inl (cI, 16, .inl g2)), (h0, .inr (1, [.ref h1, .ref h2, .ref h3, .int a0, .int x_2303, .int a2])), (h2, .inl (cI, 40, .inl f_2304))] H := hP
              replace hD : va_D A [(h1, .inl (cI, 360, .inl g0)), (h3, .inl (cI, 16, .inl g2)), (h0, .inr (1, [.ref h1, .ref h2, .ref h3, .int a0, .int x_2303, .int a2])), (h2, .inl (cI, 40, .inl f_2304))] := hD
              refine lv_goto (tgt := 114) hx hb dX1_value_93 (by decide) ?_
              obtain ⟨x_2305, ex_2305⟩ : ∃ y : Int32, y = x_2200 + Int32.ofInt (1) := ⟨_, rfl⟩
              have hx_2305 : rg (1) (360) x_2305 := by rw [ex_2305]; exact rg_mono (rg_add h_2272 (rg_k (x := Int32.ofInt (1)) (c := 1) (by decide)) (by decide) (by decide)) (by decide) (by decide)
              have qx_2305 : x_2305.toInt = x_2200.toInt + (1) := by rw [ex_2305]; exact rg_addE h_2272 (rg_k (x := Int32.ofInt (1)) (c := 1) (by decide)) (by decide) (by decide) (by decide)
              refine lv_iinc (v := x_2305) (lv' := [(1, .int x_2305), (2, .int x_2275), (0, .ref h0)]) hx hb dX1_value_114 hl (k := 1) rfl (ex_2305.symm) (by decide) rfl (fun ls hl => ?_)
              clear ex_2305
              refine lv_goto (tgt := 7) hx hb dX1_value_117 (by decide) ?_
              exact ih_2268 (f_2304, x_2305, x_2303) H locs ls ⟨hP.sub (ws' := [(h0, .inr (1, [.ref h1, .ref h2, .ref h3, .int a0, .int x_2303, .int a2])), (h1, .inl (cI, 360, .inl g0)), (h2, .inl (cI, 40, .inl f_2304)), (h3, .inl (cI, 16, .inl g2))]) [2, 0, 3, 1] rfl, hD.sub (ws' := [(h0, .inr (1, [.ref h1, .ref h2, .ref h3, .int a0, .int x_2303, .int a2])), (h1, .inl (cI, 360, .inl g0)), (h2, .inl (cI, 40, .inl f_2304)), (h3, .inl (cI, 16, .inl g2))]) [2, 0, 3, 1] (by decide) rfl, hS, lv_sub hl [0, 2] rfl, (rg_mono hx_2305 (by decide) (by decide)), (rg_mono hx_2303 (by decide) (by decide))⟩ (by show ((360) - x_2305.toInt).toNat < ((360) - x_2200.toInt).toNat; have ha := h_2272; simp only [rg] at ha; omega)
            · skip
              have h_2306 : rg (0) (0) r_2299 := by have ha := (rg_any r_2299); have hb_ := (rg_k (x := 0) (c := 0) (by decide)); simp only [rg, fa_lt, fa_le, fa_eq, (by decide : (0 : Int32).toInt = 0)] at ha hb_ c_2301; simp only [rg]; omega
              refine lv_iconst (v := 1) hx hb dX1_value_85 (by decide) ?_
              refine lv_goto (tgt := 90) hx hb dX1_value_86 (by decide) ?_
              have hPc := hP.sub (ws' := [(h0, .inr (1, [.ref h1, .ref h2, .ref h3, .int a0, .int x_2300, .int a2])), (h2, .inl (cI, 40, .inl f_2199))]) [2, 3] rfl
              have hDc := hD.sub (ws' := [(h0, .inr (1, [.ref h1, .ref h2, .ref h3, .int a0, .int x_2300, .int a2])), (h2, .inl (cI, 40, .inl f_2199))]) [2, 3] (by decide) rfl
              have hFc := va_free (wc := [(h0, .inr (1, [.ref h1, .ref h2, .ref h3, .int a0, .int x_2300, .int a2])), (h2, .inl (cI, 40, .inl f_2199))]) hD hS hA [2, 3] rfl
              refine va_callv (va_runV (As := [.int 1]) (rest := []) ⟨hx, hb, hml, hown, hts⟩ (c_s_X1_push l dC dI cB cI cJ cZ cP h0 h1 h2 f_2199 h3 a0 x_2300 (rg_mono hx_2300 (by decide) (by decide)) a2 1 H.size) (cwV 1 hts (gd_V (List.mem_of_getElem? (i := 9) rfl) (List.mem_of_getElem? (i := 10) rfl) (List.mem_of_getElem? (i := 11) rfl) (List.mem_of_getElem? (i := 6) rfl) (gd_mono k_s_X1_push (fun _ h => List.mem_cons_of_mem _ (List.mem_append_right _ (List.mem_append_right _ (List.mem_append_right _ (List.mem_append_left _ h))))))) rfl rfl rfl (by decide +kernel) ⟨Nat.le_of_ble_eq_true rfl, Nat.le_of_ble_eq_true rfl⟩) ⟨fun a U g mk q => by obtain ⟨q0, q1, qP, qK, qD⟩ := q; exact ⟨q0, q1, qP, va_K.moved (u := U) (U := U.calling g mk a) (Vm.Alike.refl U.vm) qK, qD⟩, va_recv hK hPc (ci := 1) (q0 := 0) rfl rfl, fun U hU hW => ⟨rfl, by rw [hU], by rw [hU]; exact hPc, va_K.moved hW.alike hK, hDc.weaken (fun _ _ _ _ => trivial)⟩⟩ rfl rfl hl.1 rfl (lv_room (Nat.le_of_ble_eq_true rfl)) dX1_value_90 ⟨Nat.le_of_ble_eq_true rfl, Nat.le_of_ble_eq_true rfl⟩) hS (fun q _ h => hFc q h) hFc (fun u t H1 locs ht hvm hw hB hz1 hk1 hS => ?_)
              obtain ⟨x_2308, f_2309, hx_2308, hP1, hD1⟩ := hB
              rw [ht] at hP1
              obtain ⟨hP, hD⟩ := va_join (wr := [(h1, .inl (cI, 360, .inl g0)), (h3, .inl (cI, 16, .inl g2))]) (w1 := [(h0, .inr (1, [.ref h1, .ref h2, .ref h3, .int a0, .int x_2308, .int a2])), (h2, .inl (cI, 40, .inl f_2309))]) hP hD [2, 3] [0, 1] rfl rfl (by decide) (by decide) hk1 hFc hP1 hD1
              generalize H1 = H at hP hS ⊢
              replace hP : va_P (dC, dI) vwCl [(h1, .inl (cI, 360, .inl g0)), (h3, .inl (cI, 16, .inl g2)), (h0, .inr (1, [.ref h1, .ref h2, .ref h3, .int a0, .int x_2308, .int a2])), (h2, .inl (cI, 40, .inl f_2309))] H := hP
              replace hD : va_D A [(h1, .inl (cI, 360, .inl g0)), (h3, .inl (cI, 16, .inl g2)), (h0, .inr (1, [.ref h1, .ref h2, .ref h3, .int a0, .int x_2308, .int a2])), (h2, .inl (cI, 40, .inl f_2309))] := hD
              refine lv_goto (tgt := 114) hx hb dX1_value_93 (by decide) ?_
              obtain ⟨x_2310, ex_2310⟩ : ∃ y : Int32, y = x_2200 + Int32.ofInt (1) := ⟨_, rfl⟩
              have hx_2310 : rg (1) (360) x_2310 := by rw [ex_2310]; exact rg_mono (rg_add h_2272 (rg_k (x := Int32.ofInt (1)) (c := 1) (by decide)) (by decide) (by decide)) (by decide) (by decide)
              have qx_2310 : x_2310.toInt = x_2200.toInt + (1) := by rw [ex_2310]; exact rg_addE h_2272 (rg_k (x := Int32.ofInt (1)) (c := 1) (by decide)) (by decide) (by decide) (by decide)
              refine lv_iinc (v := x_2310) (lv' := [(1, .int x_2310), (2, .int x_2275), (0, .ref h0)]) hx hb dX1_value_114 hl (k := 1) rfl (ex_2310.symm) (by decide) rfl (fun ls hl => ?_)
              clear ex_2310
              refine lv_goto (tgt := 7) hx hb dX1_value_117 (by decide) ?_
              exact ih_2268 (f_2309, x_2310, x_2308) H locs ls ⟨hP.sub (ws' := [(h0, .inr (1, [.ref h1, .ref h2, .ref h3, .int a0, .int x_2308, .int a2])), (h1, .inl (cI, 360, .inl g0)), (h2, .inl (cI, 40, .inl f_2309)), (h3, .inl (cI, 16, .inl g2))]) [2, 0, 3, 1] rfl, hD.sub (ws' := [(h0, .inr (1, [.ref h1, .ref h2, .ref h3, .int a0, .int x_2308, .int a2])), (h1, .inl (cI, 360, .inl g0)), (h2, .inl (cI, 40, .inl f_2309)), (h3, .inl (cI, 16, .inl g2))]) [2, 0, 3, 1] (by decide) rfl, hS, lv_sub hl [0, 2] rfl, (rg_mono hx_2310 (by decide) (by decide)), (rg_mono hx_2308 (by decide) (by decide))⟩ (by show ((360) - x_2310.toInt).toNat < ((360) - x_2200.toInt).toNat; have ha := h_2272; simp only [rg] at ha; omega)
        · skip
          have h_2311 : rg (12) (2147483647) x_2275 := by have ha := h_2277; have hb_ := (rg_k (x := 12) (c := 12) (by decide)); simp only [rg, fa_lt, fa_le, fa_eq, (by decide : (12 : Int32).toInt = 12)] at ha hb_ c_2285; simp only [rg]; omega
          refine lv_iload_n hx hb dX1_value_52 rfl (lv_at hl 0 rfl) ?_
          refine lv_bipush (v := 15) hx hb dX1_value_53 (by decide) ?_
          refine lv_icmp_gt (tgt := 71) hx hb dX1_value_55 (by decide) (fun c_2312 => ?_) (fun c_2312 => ?_)
          · skip
            have h_2313 : rg (16) (2147483647) x_2275 := by have ha := h_2311; have hb_ := (rg_k (x := 15) (c := 15) (by decide)); simp only [rg, fa_lt, fa_le, fa_eq, (by decide : (15 : Int32).toInt = 15)] at ha hb_ c_2312; simp only [rg]; omega
            refine lv_iload_n hx hb dX1_value_71 rfl (lv_at hl 0 rfl) ?_
            refine lv_bipush (v := 11) hx hb dX1_value_72 (by decide) ?_
            refine lv_icmp_ne (tgt := 96) hx hb dX1_value_74 (by decide) (fun c_2314 => ?_) (fun c_2314 => ?_)
            · skip
              refine lv_aload_n hx hb dX1_value_96 rfl (lv_at hl 2 rfl) ?_
              have hPc := hP.sub (ws' := [(h0, .inr (1, [.ref h1, .ref h2, .ref h3, .int a0, .int x_2201, .int a2])), (h2, .inl (cI, 40, .inl f_2199))]) [0, 2] rfl
              have hDc := hD.sub (ws' := [(h0, .inr (1, [.ref h1, .ref h2, .ref h3, .int a0, .int x_2201, .int a2])), (h2, .inl (cI, 40, .inl f_2199))]) [0, 2] (by decide) rfl
              have hFc := va_free (wc := [(h0, .inr (1, [.ref h1, .ref h2, .ref h3, .int a0, .int x_2201, .int a2])), (h2, .inl (cI, 40, .inl f_2199))]) hD hS hA [0, 2] rfl
              refine va_calli (va_runV (As := []) (rest := []) ⟨hx, hb, hml, hown, hts⟩ (c_s_X1_pop l dC dI cB cI cJ cZ cP h0 h1 h2 f_2199 h3 a0 x_2201 (rg_mono hx_2201 (by decide) (by decide)) a2 H.size) (cwV 0 hts (gd_V (List.mem_of_getElem? (i := 3) rfl) (List.mem_of_getElem? (i := 4) rfl) (List.mem_of_getElem? (i := 5) rfl) (List.mem_of_getElem? (i := 6) rfl) (gd_mono k_s_X1_pop (fun _ h => List.mem_cons_of_mem _ (List.mem_append_right _ (List.mem_append_right _ (List.mem_append_left _ h)))))) rfl rfl rfl (by decide +kernel) ⟨Nat.le_of_ble_eq_true rfl, Nat.le_of_ble_eq_true rfl⟩) ⟨fun a U g mk q => by obtain ⟨q0, q1, qP, qK, qD⟩ := q; exact ⟨q0, q1, qP, va_K.moved (u := U) (U := U.calling g mk a) (Vm.Alike.refl U.vm) qK, qD⟩, va_recv hK hPc (ci := 1) (q0 := 0) rfl rfl, fun U hU hW => ⟨rfl, by rw [hU], by rw [hU]; exact hPc, va_K.moved hW.alike hK, hDc.weaken (fun _ _ _ _ => trivial)⟩⟩ rfl rfl hl.1 rfl (lv_room (Nat.le_of_ble_eq_true rfl)) dX1_value_97 ⟨Nat.le_of_ble_eq_true rfl, Nat.le_of_ble_eq_true rfl⟩) hS (fun q _ h => hFc q h) hFc (fun r_2315 u t H1 locs ht hvm hw hB hz1 hk1 hS => ?_)
              obtain ⟨x_2316, hx_2316, hP1, hD1⟩ := hB
              rw [ht] at hP1
              obtain ⟨hP, hD⟩ := va_join (wr := [(h1, .inl (cI, 360, .inl g0)), (h3, .inl (cI, 16, .inl g2))]) (w1 := [(h0, .inr (1, [.ref h1, .ref h2, .ref h3, .int a0, .int x_2316, .int a2])), (h2, .inl (cI, 40, .inl f_2199))]) hP hD [0, 2] [1, 3] rfl rfl (by decide) (by decide) hk1 hFc hP1 hD1
              generalize H1 = H at hP hS ⊢
              replace hP : va_P (dC, dI) vwCl [(h1, .inl (cI, 360, .inl g0)), (h3, .inl (cI, 16, .inl g2)), (h0, .inr (1, [.ref h1, .ref h2, .ref h3, .int a0, .int x_2316, .int a2])), (h2, .inl (cI, 40, .inl f_2199))] H := hP
              replace hD : va_D A [(h1, .inl (cI, 360, .inl g0)), (h3, .inl (cI, 16, .inl g2)), (h0, .inr (1, [.ref h1, .ref h2, .ref h3, .int a0, .int x_2316, .int a2])), (h2, .inl (cI, 40, .inl f_2199))] := hD
              refine lv_istore_n (lv' := [(3, .int r_2315), (2, .int x_2275), (1, .int x_2200), (0, .ref h0)]) hx hb dX1_value_100 rfl hl (by decide) rfl (fun ls hl => ?_)
              refine lv_aload_n hx hb dX1_value_101 rfl (lv_at hl 3 rfl) ?_
              refine lv_iload_n hx hb dX1_value_102 rfl (lv_at hl 1 rfl) ?_
              refine lv_aload_n hx hb dX1_value_103 rfl (lv_at hl 3 rfl) ?_
              have hPc := hP.sub (ws' := [(h0, .inr (1, [.ref h1, .ref h2, .ref h3, .int a0, .int x_2316, .int a2])), (h2, .inl (cI, 40, .inl f_2199))]) [2, 3] rfl
              have hDc := hD.sub (ws' := [(h0, .inr (1, [.ref h1, .ref h2, .ref h3, .int a0, .int x_2316, .int a2])), (h2, .inl (cI, 40, .inl f_2199))]) [2, 3] (by decide) rfl
              have hFc := va_free (wc := [(h0, .inr (1, [.ref h1, .ref h2, .ref h3, .int a0, .int x_2316, .int a2])), (h2, .inl (cI, 40, .inl f_2199))]) hD hS hA [2, 3] rfl
              refine va_calli (va_runV (As := []) (rest := [.int x_2275, .ref h0]) ⟨hx, hb, hml, hown, hts⟩ (c_s_X1_pop l dC dI cB cI cJ cZ cP h0 h1 h2 f_2199 h3 a0 x_2316 (rg_mono hx_2316 (by decide) (by decide)) a2 H.size) (cwV 0 hts (gd_V (List.mem_of_getElem? (i := 3) rfl) (List.mem_of_getElem? (i := 4) rfl) (List.mem_of_getElem? (i := 5) rfl) (List.mem_of_getElem? (i := 6) rfl) (gd_mono k_s_X1_pop (fun _ h => List.mem_cons_of_mem _ (List.mem_append_right _ (List.mem_append_right _ (List.mem_append_left _ h)))))) rfl rfl rfl (by decide +kernel) ⟨Nat.le_of_ble_eq_true rfl, Nat.le_of_ble_eq_true rfl⟩) ⟨fun a U g mk q => by obtain ⟨q0, q1, qP, qK, qD⟩ := q; exact ⟨q0, q1, qP, va_K.moved (u := U) (U := U.calling g mk a) (Vm.Alike.refl U.vm) qK, qD⟩, va_recv hK hPc (ci := 1) (q0 := 0) rfl rfl, fun U hU hW => ⟨rfl, by rw [hU], by rw [hU]; exact hPc, va_K.moved hW.alike hK, hDc.weaken (fun _ _ _ _ => trivial)⟩⟩ rfl rfl hl.1 rfl (lv_room (Nat.le_of_ble_eq_true rfl)) dX1_value_104 ⟨Nat.le_of_ble_eq_true rfl, Nat.le_of_ble_eq_true rfl⟩) hS (fun q _ h => hFc q h) hFc (fun r_2317 u t H1 locs ht hvm hw hB hz1 hk1 hS => ?_)
              obtain ⟨x_2318, hx_2318, hP1, hD1⟩ := hB
              rw [ht] at hP1
              obtain ⟨hP, hD⟩ := va_join (wr := [(h1, .inl (cI, 360, .inl g0)), (h3, .inl (cI, 16, .inl g2))]) (w1 := [(h0, .inr (1, [.ref h1, .ref h2, .ref h3, .int a0, .int x_2318, .int a2])), (h2, .inl (cI, 40, .inl f_2199))]) hP hD [2, 3] [0, 1] rfl rfl (by decide) (by decide) hk1 hFc hP1 hD1
              generalize H1 = H at hP hS ⊢
              replace hP : va_P (dC, dI) vwCl [(h1, .inl (cI, 360, .inl g0)), (h3, .inl (cI, 16, .inl g2)), (h0, .inr (1, [.ref h1, .ref h2, .ref h3, .int a0, .int x_2318, .int a2])), (h2, .inl (cI, 40, .inl f_2199))] H := hP
              replace hD : va_D A [(h1, .inl (cI, 360, .inl g0)), (h3, .inl (cI, 16, .inl g2)), (h0, .inr (1, [.ref h1, .ref h2, .ref h3, .int a0, .int x_2318, .int a2])), (h2, .inl (cI, 40, .inl f_2199))] := hD
              refine lv_iload_n hx hb dX1_value_107 rfl (lv_at hl 0 rfl) ?_
              have hPc := hP.sub (ws' := []) [] rfl
              have hDc := hD.sub (ws' := []) [] (by decide) rfl
              have hFc := va_free (wc := []) hD hS hA [] rfl
              refine va_calli (va_runS (As := [.int x_2275, .int r_2317, .int r_2315]) (rest := [.ref h0]) ⟨hx, hb, hml, hown, hts⟩ (c_s_X1_joined l dC dI cB cI cJ cZ cP x_2275 r_2317 r_2315 H.size) (va_cwS 3 hts (gd_S (List.mem_of_getElem? (i := 12) rfl) (List.mem_of_getElem? (i := 13) rfl) (List.mem_of_getElem? (i := 6) rfl) (gd_mono k_s_X1_joined (fun _ h => List.mem_cons_of_mem _ (List.mem_append_right _ (List.mem_append_right _ (List.mem_append_right _ (List.mem_append_right _ (List.mem_append_left _ h)))))))) rfl rfl rfl (by decide +kernel) ⟨Nat.le_of_ble_eq_true rfl, Nat.le_of_ble_eq_true rfl⟩) ⟨fun a U g mk q => by obtain ⟨q0, q1, qP, qK, qD⟩ := q; exact ⟨q0, q1, qP, va_K.moved (u := U) (U := U.calling g mk a) (Vm.Alike.refl U.vm) qK, qD⟩, fun U hU hW => ⟨rfl, by rw [hU], by rw [hU]; exact hPc, va_K.moved hW.alike hK, hDc.weaken (fun _ _ _ _ => trivial)⟩⟩ rfl rfl hl.1 rfl (lv_room (Nat.le_of_ble_eq_true rfl)) dX1_value_108 ⟨Nat.le_of_ble_eq_true rfl, Nat.le_of_ble_eq_true rfl⟩) hS (fun q _ h => hFc q h) hFc (fun r_2319 u t H1 locs ht hvm hw hB hz1 hk1 hS => ?_)
              obtain ⟨hP1, hD1⟩ := hB
              rw [ht] at hP1
              obtain ⟨hP, hD⟩ := va_join (wr := [(h1, .inl (cI, 360, .inl g0)), (h3, .inl (cI, 16, .inl g2)), (h0, .inr (1, [.ref h1, .ref h2, .ref h3, .int a0, .int x_2318, .int a2])), (h2, .inl (cI, 40, .inl f_2199))]) (w1 := []) hP hD [] [0, 1, 2, 3] rfl rfl (by decide) (by decide) hk1 hFc hP1 hD1
              generalize H1 = H at hP hS ⊢
              replace hP : va_P (dC, dI) vwCl [(h1, .inl (cI, 360, .inl g0)), (h3, .inl (cI, 16, .inl g2)), (h0, .inr (1, [.ref h1, .ref h2, .ref h3, .int a0, .int x_2318, .int a2])), (h2, .inl (cI, 40, .inl f_2199))] H := hP
              replace hD : va_D A [(h1, .inl (cI, 360, .inl g0)), (h3, .inl (cI, 16, .inl g2)), (h0, .inr (1, [.ref h1, .ref h2, .ref h3, .int a0, .int x_2318, .int a2])), (h2, .inl (cI, 40, .inl f_2199))] := hD
              have hPc := hP.sub (ws' := [(h0, .inr (1, [.ref h1, .ref h2, .ref h3, .int a0, .int x_2318, .int a2])), (h2, .inl (cI, 40, .inl f_2199))]) [2, 3] rfl
              have hDc := hD.sub (ws' := [(h0, .inr (1, [.ref h1, .ref h2, .ref h3, .int a0, .int x_2318, .int a2])), (h2, .inl (cI, 40, .inl f_2199))]) [2, 3] (by decide) rfl
              have hFc := va_free (wc := [(h0, .inr (1, [.ref h1, .ref h2, .ref h3, .int a0, .int x_2318, .int a2])), (h2, .inl (cI, 40, .inl f_2199))]) hD hS hA [2, 3] rfl
              refine va_callv (va_runV (As := [.int r_2319]) (rest := []) ⟨hx, hb, hml, hown, hts⟩ (c_s_X1_push l dC dI cB cI cJ cZ cP h0 h1 h2 f_2199 h3 a0 x_2318 (rg_mono hx_2318 (by decide) (by decide)) a2 r_2319 H.size) (cwV 1 hts (gd_V (List.mem_of_getElem? (i := 9) rfl) (List.mem_of_getElem? (i := 10) rfl) (List.mem_of_getElem? (i := 11) rfl) (List.mem_of_getElem? (i := 6) rfl) (gd_mono k_s_X1_push (fun _ h => List.mem_cons_of_mem _ (List.mem_append_right _ (List.mem_append_right _ (List.mem_append_right _ (List.mem_append_left _ h))))))) rfl rfl rfl (by decide +kernel) ⟨Nat.le_of_ble_eq_true rfl, Nat.le_of_ble_eq_true rfl⟩) ⟨fun a U g mk q => by obtain ⟨q0, q1, qP, qK, qD⟩ := q; exact ⟨q0, q1, qP, va_K.moved (u := U) (U := U.calling g mk a) (Vm.Alike.refl U.vm) qK, qD⟩, va_recv hK hPc (ci := 1) (q0 := 0) rfl rfl, fun U hU hW => ⟨rfl, by rw [hU], by rw [hU]; exact hPc, va_K.moved hW.alike hK, hDc.weaken (fun _ _ _ _ => trivial)⟩⟩ rfl rfl hl.1 rfl (lv_room (Nat.le_of_ble_eq_true rfl)) dX1_value_111 ⟨Nat.le_of_ble_eq_true rfl, Nat.le_of_ble_eq_true rfl⟩) hS (fun q _ h => hFc q h) hFc (fun u t H1 locs ht hvm hw hB hz1 hk1 hS => ?_)
              obtain ⟨x_2321, f_2322, hx_2321, hP1, hD1⟩ := hB
              rw [ht] at hP1
              obtain ⟨hP, hD⟩ := va_join (wr := [(h1, .inl (cI, 360, .inl g0)), (h3, .inl (cI, 16, .inl g2))]) (w1 := [(h0, .inr (1, [.ref h1, .ref h2, .ref h3, .int a0, .int x_2321, .int a2])), (h2, .inl (cI, 40, .inl f_2322))]) hP hD [2, 3] [0, 1] rfl rfl (by decide) (by decide) hk1 hFc hP1 hD1
              generalize H1 = H at hP hS ⊢
              replace hP : va_P (dC, dI) vwCl [(h1, .inl (cI, 360, .inl g0)), (h3, .inl (cI, 16, .inl g2)), (h0, .inr (1, [.ref h1, .ref h2, .ref h3, .int a0, .int x_2321, .int a2])), (h2, .inl (cI, 40, .inl f_2322))] H := hP
              replace hD : va_D A [(h1, .inl (cI, 360, .inl g0)), (h3, .inl (cI, 16, .inl g2)), (h0, .inr (1, [.ref h1, .ref h2, .ref h3, .int a0, .int x_2321, .int a2])), (h2, .inl (cI, 40, .inl f_2322))] := hD
              obtain ⟨x_2323, ex_2323⟩ : ∃ y : Int32, y = x_2200 + Int32.ofInt (1) := ⟨_, rfl⟩
              have hx_2323 : rg (1) (360) x_2323 := by rw [ex_2323]; exact rg_mono (rg_add h_2272 (rg_k (x := Int32.ofInt (1)) (c := 1) (by decide)) (by decide) (by decide)) (by decide) (by decide)
              have qx_2323 : x_2323.toInt = x_2200.toInt + (1) := by rw [ex_2323]; exact rg_addE h_2272 (rg_k (x := Int32.ofInt (1)) (c := 1) (by decide)) (by decide) (by decide) (by decide)
              refine lv_iinc (v := x_2323) (lv' := [(1, .int x_2323), (3, .int r_2315), (2, .int x_2275), (0, .ref h0)]) hx hb dX1_value_114 hl (k := 2) rfl (ex_2323.symm) (by decide) rfl (fun ls hl => ?_)
              clear ex_2323
              refine lv_goto (tgt := 7) hx hb dX1_value_117 (by decide) ?_
              exact ih_2268 (f_2322, x_2323, x_2321) H locs ls ⟨hP.sub (ws' := [(h0, .inr (1, [.ref h1, .ref h2, .ref h3, .int a0, .int x_2321, .int a2])), (h1, .inl (cI, 360, .inl g0)), (h2, .inl (cI, 40, .inl f_2322)), (h3, .inl (cI, 16, .inl g2))]) [2, 0, 3, 1] rfl, hD.sub (ws' := [(h0, .inr (1, [.ref h1, .ref h2, .ref h3, .int a0, .int x_2321, .int a2])), (h1, .inl (cI, 360, .inl g0)), (h2, .inl (cI, 40, .inl f_2322)), (h3, .inl (cI, 16, .inl g2))]) [2, 0, 3, 1] (by decide) rfl, hS, lv_sub hl [0, 3] rfl, (rg_mono hx_2323 (by decide) (by decide)), (rg_mono hx_2321 (by decide) (by decide))⟩ (by show ((360) - x_2323.toInt).toNat < ((360) - x_2200.toInt).toNat; have ha := h_2272; simp only [rg] at ha; omega)
            · skip
              exfalso; have ha := h_2313; have hb_ := (rg_k (x := 11) (c := 11) (by decide)); simp only [rg, fa_lt, fa_le, fa_eq, (by decide : (11 : Int32).toInt = 11)] at ha hb_ c_2314; omega
          · skip
            have h_2324 : rg (12) (15) x_2275 := by have ha := h_2311; have hb_ := (rg_k (x := 15) (c := 15) (by decide)); simp only [rg, fa_lt, fa_le, fa_eq, (by decide : (15 : Int32).toInt = 15)] at ha hb_ c_2312; simp only [rg]; omega
            refine lv_aload_n hx hb dX1_value_58 rfl (lv_at hl 2 rfl) ?_
            refine lv_aload_n hx hb dX1_value_59 rfl (lv_at hl 2 rfl) ?_
            refine va_get (D := (dC, dI)) (ci := 1) (v := .ref h3) (C := RX1) (T := TX1) (N := 6) hx hb hts hinX1 hown hK hP 0 rfl rfl 2 (by decide) (hts (.fieldLink RX1 18 "MayRings$Law" "facts" "[I") (List.mem_of_getElem? (i := 8) rfl)) (fun _ h9 => h9) rfl dX1_value_60 ?_
            refine lv_iload_n hx hb dX1_value_63 rfl (lv_at hl 0 rfl) ?_
            refine va_iald hx hb hK hP 3 1 rfl rfl (rg_in (n := 16) (rg_mono h_2324 (by decide) (by decide))) dX1_value_64 ?_
            refine lv_topi (fun x_2325 ex_2325 => ?_)
            have hPc := hP.sub (ws' := [(h0, .inr (1, [.ref h1, .ref h2, .ref h3, .int a0, .int x_2201, .int a2])), (h2, .inl (cI, 40, .inl f_2199))]) [0, 2] rfl
            have hDc := hD.sub (ws' := [(h0, .inr (1, [.ref h1, .ref h2, .ref h3, .int a0, .int x_2201, .int a2])), (h2, .inl (cI, 40, .inl f_2199))]) [0, 2] (by decide) rfl
            have hFc := va_free (wc := [(h0, .inr (1, [.ref h1, .ref h2, .ref h3, .int a0, .int x_2201, .int a2])), (h2, .inl (cI, 40, .inl f_2199))]) hD hS hA [0, 2] rfl
            refine va_callv (va_runV (As := [.int x_2325]) (rest := []) ⟨hx, hb, hml, hown, hts⟩ (c_s_X1_push l dC dI cB cI cJ cZ cP h0 h1 h2 f_2199 h3 a0 x_2201 (rg_mono hx_2201 (by decide) (by decide)) a2 x_2325 H.size) (cwV 1 hts (gd_V (List.mem_of_getElem? (i := 9) rfl) (List.mem_of_getElem? (i := 10) rfl) (List.mem_of_getElem? (i := 11) rfl) (List.mem_of_getElem? (i := 6) rfl) (gd_mono k_s_X1_push (fun _ h => List.mem_cons_of_mem _ (List.mem_append_right _ (List.mem_append_right _ (List.mem_append_right _ (List.mem_append_left _ h))))))) rfl rfl rfl (by decide +kernel) ⟨Nat.le_of_ble_eq_true rfl, Nat.le_of_ble_eq_true rfl⟩) ⟨fun a U g mk q => by obtain ⟨q0, q1, qP, qK, qD⟩ := q; exact ⟨q0, q1, qP, va_K.moved (u := U) (U := U.calling g mk a) (Vm.Alike.refl U.vm) qK, qD⟩, va_recv hK hPc (ci := 1) (q0 := 0) rfl rfl, fun U hU hW => ⟨rfl, by rw [hU], by rw [hU]; exact hPc, va_K.moved hW.alike hK, hDc.weaken (fun _ _ _ _ => trivial)⟩⟩ rfl rfl hl.1 rfl (lv_room (Nat.le_of_ble_eq_true rfl)) dX1_value_65 ⟨Nat.le_of_ble_eq_true rfl, Nat.le_of_ble_eq_true rfl⟩) hS (fun q _ h => hFc q h) hFc (fun u t H1 locs ht hvm hw hB hz1 hk1 hS => ?_)
            obtain ⟨x_2327, f_2328, hx_2327, hP1, hD1⟩ := hB
            rw [ht] at hP1
            obtain ⟨hP, hD⟩ := va_join (wr := [(h1, .inl (cI, 360, .inl g0)), (h3, .inl (cI, 16, .inl g2))]) (w1 := [(h0, .inr (1, [.ref h1, .ref h2, .ref h3, .int a0, .int x_2327, .int a2])), (h2, .inl (cI, 40, .inl f_2328))]) hP hD [0, 2] [1, 3] rfl rfl (by decide) (by decide) hk1 hFc hP1 hD1
            generalize H1 = H at hP hS ⊢
            replace hP : va_P (dC, dI) vwCl [(h1, .inl (cI, 360, .inl g0)), (h3, .inl (cI, 16, .inl g2)), (h0, .inr (1, [.ref h1, .ref h2, .ref h3, .int a0, .int x_2327, .int a2])), (h2, .inl (cI, 40, .inl f_2328))] H := hP
            replace hD : va_D A [(h1, .inl (cI, 360, .inl g0)), (h3, .inl (cI, 16, .inl g2)), (h0, .inr (1, [.ref h1, .ref h2, .ref h3, .int a0, .int x_2327, .int a2])), (h2, .inl (cI, 40, .inl f_2328))] := hD
            refine lv_goto (tgt := 114) hx hb dX1_value_68 (by decide) ?_
            obtain ⟨x_2329, ex_2329⟩ : ∃ y : Int32, y = x_2200 + Int32.ofInt (1) := ⟨_, rfl⟩
            have hx_2329 : rg (1) (360) x_2329 := by rw [ex_2329]; exact rg_mono (rg_add h_2272 (rg_k (x := Int32.ofInt (1)) (c := 1) (by decide)) (by decide) (by decide)) (by decide) (by decide)
            have qx_2329 : x_2329.toInt = x_2200.toInt + (1) := by rw [ex_2329]; exact rg_addE h_2272 (rg_k (x := Int32.ofInt (1)) (c := 1) (by decide)) (by decide) (by decide) (by decide)
            refine lv_iinc (v := x_2329) (lv' := [(1, .int x_2329), (2, .int x_2275), (0, .ref h0)]) hx hb dX1_value_114 hl (k := 1) rfl (ex_2329.symm) (by decide) rfl (fun ls hl => ?_)
            clear ex_2329
            refine lv_goto (tgt := 7) hx hb dX1_value_117 (by decide) ?_
            exact ih_2268 (f_2328, x_2329, x_2327) H locs ls ⟨hP.sub (ws' := [(h0, .inr (1, [.ref h1, .ref h2, .ref h3, .int a0, .int x_2327, .int a2])), (h1, .inl (cI, 360, .inl g0)), (h2, .inl (cI, 40, .inl f_2328)), (h3, .inl (cI, 16, .inl g2))]) [2, 0, 3, 1] rfl, hD.sub (ws' := [(h0, .inr (1, [.ref h1, .ref h2, .ref h3, .int a0, .int x_2327, .int a2])), (h1, .inl (cI, 360, .inl g0)), (h2, .inl (cI, 40, .inl f_2328)), (h3, .inl (cI, 16, .inl g2))]) [2, 0, 3, 1] (by decide) rfl, hS, lv_sub hl [0, 2] rfl, (rg_mono hx_2329 (by decide) (by decide)), (rg_mono hx_2327 (by decide) (by decide))⟩ (by show ((360) - x_2329.toInt).toNat < ((360) - x_2200.toInt).toNat; have ha := h_2272; simp only [rg] at ha; omega)
    · skip
      have h_2330 : rg (-2147483648) (0) x_2275 := by have ha := (rg_any x_2275); have hb_ := (rg_k (x := 0) (c := 0) (by decide)); simp only [rg, fa_lt, fa_le, fa_eq, (by decide : (0 : Int32).toInt = 0)] at ha hb_ c_2276; simp only [rg]; omega
      refine lv_aload_n hx hb dX1_value_27 rfl (lv_at hl 2 rfl) ?_
      refine lv_aload_n hx hb dX1_value_28 rfl (lv_at hl 2 rfl) ?_
      refine va_get (D := (dC, dI)) (ci := 1) (v := .ref h1) (C := RX1) (T := TX1) (N := 6) hx hb hts hinX1 hown hK hP 0 rfl rfl 0 (by decide) (hts (.fieldLink RX1 11 "MayRings$Law" "codes" "[I") (List.mem_of_getElem? (i := 7) rfl)) (fun _ h9 => h9) rfl dX1_value_29 ?_
      refine lv_iload_n hx hb dX1_value_32 rfl (lv_at hl 1 rfl) ?_
      refine va_iald hx hb hK hP 1 1 rfl rfl (rg_in (n := 360) (rg_mono h_2272 (by decide) (by decide))) dX1_value_33 ?_
      refine tp_v (.int x_2274) (congrArg Value.int (ex_2274.symm)) ?_
      have hPc := hP.sub (ws' := [(h0, .inr (1, [.ref h1, .ref h2, .ref h3, .int a0, .int x_2201, .int a2])), (h2, .inl (cI, 40, .inl f_2199))]) [0, 2] rfl
      have hDc := hD.sub (ws' := [(h0, .inr (1, [.ref h1, .ref h2, .ref h3, .int a0, .int x_2201, .int a2])), (h2, .inl (cI, 40, .inl f_2199))]) [0, 2] (by decide) rfl
      have hFc := va_free (wc := [(h0, .inr (1, [.ref h1, .ref h2, .ref h3, .int a0, .int x_2201, .int a2])), (h2, .inl (cI, 40, .inl f_2199))]) hD hS hA [0, 2] rfl
      refine va_callv (va_runV (As := [.int x_2274]) (rest := []) ⟨hx, hb, hml, hown, hts⟩ (c_s_X1_push l dC dI cB cI cJ cZ cP h0 h1 h2 f_2199 h3 a0 x_2201 (rg_mono hx_2201 (by decide) (by decide)) a2 x_2274 H.size) (cwV 1 hts (gd_V (List.mem_of_getElem? (i := 9) rfl) (List.mem_of_getElem? (i := 10) rfl) (List.mem_of_getElem? (i := 11) rfl) (List.mem_of_getElem? (i := 6) rfl) (gd_mono k_s_X1_push (fun _ h => List.mem_cons_of_mem _ (List.mem_append_right _ (List.mem_append_right _ (List.mem_append_right _ (List.mem_append_left _ h))))))) rfl rfl rfl (by decide +kernel) ⟨Nat.le_of_ble_eq_true rfl, Nat.le_of_ble_eq_true rfl⟩) ⟨fun a U g mk q => by obtain ⟨q0, q1, qP, qK, qD⟩ := q; exact ⟨q0, q1, qP, va_K.moved (u := U) (U := U.calling g mk a) (Vm.Alike.refl U.vm) qK, qD⟩, va_recv hK hPc (ci := 1) (q0 := 0) rfl rfl, fun U hU hW => ⟨rfl, by rw [hU], by rw [hU]; exact hPc, va_K.moved hW.alike hK, hDc.weaken (fun _ _ _ _ => trivial)⟩⟩ rfl rfl hl.1 rfl (lv_room (Nat.le_of_ble_eq_true rfl)) dX1_value_34 ⟨Nat.le_of_ble_eq_true rfl, Nat.le_of_ble_eq_true rfl⟩) hS (fun q _ h => hFc q h) hFc (fun u t H1 locs ht hvm hw hB hz1 hk1 hS => ?_)
      obtain ⟨x_2332, f_2333, hx_2332, hP1, hD1⟩ := hB
      rw [ht] at hP1
      obtain ⟨hP, hD⟩ := va_join (wr := [(h1, .inl (cI, 360, .inl g0)), (h3, .inl (cI, 16, .inl g2))]) (w1 := [(h0, .inr (1, [.ref h1, .ref h2, .ref h3, .int a0, .int x_2332, .int a2])), (h2, .inl (cI, 40, .inl f_2333))]) hP hD [0, 2] [1, 3] rfl rfl (by decide) (by decide) hk1 hFc hP1 hD1
      generalize H1 = H at hP hS ⊢
      replace hP : va_P (dC, dI) vwCl [(h1, .inl (cI, 360, .inl g0)), (h3, .inl (cI, 16, .inl g2)), (h0, .inr (1, [.ref h1, .ref h2, .ref h3, .int a0, .int x_2332, .int a2])), (h2, .inl (cI, 40, .inl f_2333))] H := hP
      replace hD : va_D A [(h1, .inl (cI, 360, .inl g0)), (h3, .inl (cI, 16, .inl g2)), (h0, .inr (1, [.ref h1, .ref h2, .ref h3, .int a0, .int x_2332, .int a2])), (h2, .inl (cI, 40, .inl f_2333))] := hD
      refine lv_goto (tgt := 114) hx hb dX1_value_37 (by decide) ?_
      obtain ⟨x_2334, ex_2334⟩ : ∃ y : Int32, y = x_2200 + Int32.ofInt (1) := ⟨_, rfl⟩
      have hx_2334 : rg (1) (360) x_2334 := by rw [ex_2334]; exact rg_mono (rg_add h_2272 (rg_k (x := Int32.ofInt (1)) (c := 1) (by decide)) (by decide) (by decide)) (by decide) (by decide)
      have qx_2334 : x_2334.toInt = x_2200.toInt + (1) := by rw [ex_2334]; exact rg_addE h_2272 (rg_k (x := Int32.ofInt (1)) (c := 1) (by decide)) (by decide) (by decide) (by decide)
      refine lv_iinc (v := x_2334) (lv' := [(1, .int x_2334), (2, .int x_2275), (0, .ref h0)]) hx hb dX1_value_114 hl (k := 1) rfl (ex_2334.symm) (by decide) rfl (fun ls hl => ?_)
      clear ex_2334
      refine lv_goto (tgt := 7) hx hb dX1_value_117 (by decide) ?_
      exact ih_2268 (f_2333, x_2334, x_2332) H locs ls ⟨hP.sub (ws' := [(h0, .inr (1, [.ref h1, .ref h2, .ref h3, .int a0, .int x_2332, .int a2])), (h1, .inl (cI, 360, .inl g0)), (h2, .inl (cI, 40, .inl f_2333)), (h3, .inl (cI, 16, .inl g2))]) [2, 0, 3, 1] rfl, hD.sub (ws' := [(h0, .inr (1, [.ref h1, .ref h2, .ref h3, .int a0, .int x_2332, .int a2])), (h1, .inl (cI, 360, .inl g0)), (h2, .inl (cI, 40, .inl f_2333)), (h3, .inl (cI, 16, .inl g2))]) [2, 0, 3, 1] (by decide) rfl, hS, lv_sub hl [0, 2] rfl, (rg_mono hx_2334 (by decide) (by decide)), (rg_mono hx_2332 (by decide) (by decide))⟩ (by show ((360) - x_2334.toInt).toNat < ((360) - x_2200.toInt).toNat; have ha := h_2272; simp only [rg] at ha; omega)
def v_s_X2_add : List Cond := Cond.code yX2_add cX2_add 5 (some .int) :: ([Cond.fieldLink RX2 31 "MayRings$Letters" "count" "I", Cond.fieldLink RX2 11 "MayRings$Letters" "house" "[I", Cond.fieldLink RX2 15 "MayRings$Letters" "where" "[I", Cond.fieldLink RX2 18 "MayRings$Letters" "ofPlace" "[Z", Cond.fieldLink RX2 22 "MayRings$Letters" "isSo" "[Z", Cond.fieldLink RX2 25 "MayRings$Letters" "toldAt" "[I", Cond.fieldLink RX2 35 "MayRings$Letters" "time" "I", Cond.fieldLink RX2 28 "MayRings$Letters" "untoldAt" "[I"] ++ (wsX20 ++ ([])))
theorem k_s_X2_add : GoodIn lw_tbl v_s_X2_add := gd_c (List.mem_of_getElem? (i := 1153) (by decide +kernel)) rfl (goodIn_app (gd_c (List.mem_of_getElem? (i := 410) (by decide +kernel)) rfl (gd_c (List.mem_of_getElem? (i := 404) (by decide +kernel)) rfl (gd_c (List.mem_of_getElem? (i := 405) (by decide +kernel)) rfl (gd_c (List.mem_of_getElem? (i := 406) (by decide +kernel)) rfl (gd_c (List.mem_of_getElem? (i := 407) (by decide +kernel)) rfl (gd_c (List.mem_of_getElem? (i := 408) (by decide +kernel)) rfl (gd_c (List.mem_of_getElem? (i := 412) (by decide +kernel)) rfl (gd_c (List.mem_of_getElem? (i := 409) (by decide +kernel)) rfl (gd_nil))))))))) (goodIn_app kfX2 (gd_nil)))
set_option maxHeartbeats 2000000 in
set_option maxRecDepth 100000 in
theorem c_s_X2_add (l : Launch) (dC : Nat → ClassId) (dI : Nat → Nat → Nat) (cB cI cJ cZ cP : ClassId) (h0 : Nat) (h1 : Nat) (g0 : Nat → Int32) (hg0 : rgA (0) (8) g0) (h2 : Nat) (g1 : Nat → Int32) (hg1 : rgA (0) (8) g1) (h3 : Nat) (g2 : Nat → Int32) (hg2 : rgA (0) (1) g2) (h4 : Nat) (g3 : Nat → Int32) (hg3 : rgA (0) (1) g3) (h5 : Nat) (g4 : Nat → Int32) (h6 : Nat) (g5 : Nat → Int32) (a0 : Int32) (ha0 : rg (0) (20) a0) (a1 : Int32) (p0 : Int32) (hp0 : rg (0) (8) p0) (p1 : Int32) (hp1 : rg (0) (8) p1) (p2 : Int32) (hp2 : rg (0) (1) p2) (p3 : Int32) (hp3 : rg (0) (1) p3) (sz : Nat) : Met l yX2_add v_s_X2_add ({ frames := 0, cells := 0, slots := 0, locals := 0 }) (va_Pc [.ref h0, .int p0, .int p1, .int p2, .int p3] (fun U => U.heap.size = sz ∧ va_P (dC, dI) vwCl [(h0, .inr (2, [.ref h1, .ref h2, .ref h3, .ref h4, .ref h5, .ref h6, .int a0, .int a1])), (h1, .inl (cI, 20, .inl g0)), (h2, .inl (cI, 20, .inl g1)), (h3, .inl (cZ, 20, .inl g2)), (h4, .inl (cZ, 20, .inl g3)), (h5, .inl (cI, 20, .inl g4)), (h6, .inl (cI, 20, .inl g5))] U.heap ∧ va_K (dC, dI) vwCl (ty5 cB cI cJ cZ cP) U ∧ va_D (fun _ => True) [(h0, .inr (2, [.ref h1, .ref h2, .ref h3, .ref h4, .ref h5, .ref h6, .int a0, .int a1])), (h1, .inl (cI, 20, .inl g0)), (h2, .inl (cI, 20, .inl g1)), (h3, .inl (cZ, 20, .inl g2)), (h4, .inl (cZ, 20, .inl g3)), (h5, .inl (cI, 20, .inl g4)), (h6, .inl (cI, 20, .inl g5))])) (va_Qi (fun (r : Int32) (u9 : Unit) => rg (-1) (19) r) (fun u9 t => ∃ (z0 : Int32) (z1 : Nat → Int32) (z2 : Nat → Int32) (z3 : Nat → Int32) (z4 : Nat → Int32) (z5 : Nat → Int32) (z6 : Nat → Int32), rg (0) (20) z0 ∧ rgA (0) (8) z1 ∧ rgA (0) (8) z2 ∧ rgA (0) (1) z3 ∧ rgA (0) (1) z4 ∧ va_P (dC, dI) vwCl [(h0, .inr (2, [.ref h1, .ref h2, .ref h3, .ref h4, .ref h5, .ref h6, .int z0, .int a1])), (h1, .inl (cI, 20, .inl z1)), (h2, .inl (cI, 20, .inl z2)), (h3, .inl (cZ, 20, .inl z3)), (h4, .inl (cZ, 20, .inl z4)), (h5, .inl (cI, 20, .inl z5)), (h6, .inl (cI, 20, .inl z6))] t.heap ∧ va_D (va_A [(h0, .inr (2, [.ref h1, .ref h2, .ref h3, .ref h4, .ref h5, .ref h6, .int a0, .int a1])), (h1, .inl (cI, 20, .inl g0)), (h2, .inl (cI, 20, .inl g1)), (h3, .inl (cZ, 20, .inl g2)), (h4, .inl (cZ, 20, .inl g3)), (h5, .inl (cI, 20, .inl g4)), (h6, .inl (cI, 20, .inl g5))] sz) [(h0, .inr (2, [.ref h1, .ref h2, .ref h3, .ref h4, .ref h5, .ref h6, .int z0, .int a1])), (h1, .inl (cI, 20, .inl z1)), (h2, .inl (cI, 20, .inl z2)), (h3, .inl (cZ, 20, .inl z3)), (h4, .inl (cZ, 20, .inl z4)), (h5, .inl (cI, 20, .inl z5)), (h6, .inl (cI, 20, .inl z6))]) (va_A [(h0, .inr (2, [.ref h1, .ref h2, .ref h3, .ref h4, .ref h5, .ref h6, .int a0, .int a1])), (h1, .inl (cI, 20, .inl g0)), (h2, .inl (cI, 20, .inl g1)), (h3, .inl (cZ, 20, .inl g2)), (h4, .inl (cZ, 20, .inl g3)), (h5, .inl (cI, 20, .inl g4)), (h6, .inl (cI, 20, .inl g5))] sz)) 0 0 (va_A [(h0, .inr (2, [.ref h1, .ref h2, .ref h3, .ref h4, .ref h5, .ref h6, .int a0, .int a1])), (h1, .inl (cI, 20, .inl g0)), (h2, .inl (cI, 20, .inl g1)), (h3, .inl (cZ, 20, .inl g2)), (h4, .inl (cZ, 20, .inl g3)), (h5, .inl (cI, 20, .inl g4)), (h6, .inl (cI, 20, .inl g5))] sz) := by
  refine Met.ofW (cc := cX2_add) (maxL := 5) (ret := (some .int)) (by decide) rfl ?_
  intro p e s m args below meth c s₁ B hml hv
  obtain ⟨rfl, hsz, hP, hK, hD0⟩ := hv
  have hx := B.exec
  have hb := B.bytes
  have hr := B.returns
  have hts := atoms_spec (ws := v_s_X2_add) B.pre
  have hown : s.vm.findClass RX2 = some m.cls := findClass_of_methodNamed B.named
  have hlocks := B.notSynchronized
  have hinX2 : ∀ w ∈ wsX20, w ∈ v_s_X2_add := fun _ h => List.mem_cons_of_mem _ (List.mem_append_right _ (List.mem_append_left _ h))
  subst hsz
  have hD := hD0.self (sz := s.heap.size)
  generalize hAe : va_A [(h0, .inr (2, [.ref h1, .ref h2, .ref h3, .ref h4, .ref h5, .ref h6, .int a0, .int a1])), (h1, .inl (cI, 20, .inl g0)), (h2, .inl (cI, 20, .inl g1)), (h3, .inl (cZ, 20, .inl g2)), (h4, .inl (cZ, 20, .inl g3)), (h5, .inl (cI, 20, .inl g4)), (h6, .inl (cI, 20, .inl g5))] s.heap.size = A at hD ⊢
  have hA : ∀ q : Nat, s.heap.size ≤ q → A q := fun q h => by rw [← hAe]; exact Or.inr h
  have hP : va_P (dC, dI) vwCl [(h0, .inr (2, [.ref h1, .ref h2, .ref h3, .ref h4, .ref h5, .ref h6, .int a0, .int a1])), (h1, .inl (cI, 20, .inl g0)), (h2, .inl (cI, 20, .inl g1)), (h3, .inl (cZ, 20, .inl g2)), (h4, .inl (cZ, 20, .inl g3)), (h5, .inl (cI, 20, .inl g4)), (h6, .inl (cI, 20, .inl g5))] s.heap := hP
  have hl := lv_entry ([.ref h0, .int p0, .int p1, .int p2, .int p3]) (n := 5) (Nat.le_of_ble_eq_true rfl)
  rw [lg_entry_eq]
  generalize (lg_sl ([.ref h0, .int p0, .int p1, .int p2, .int p3]) ++ List.replicate (5 - (lg_sl ([.ref h0, .int p0, .int p1, .int p2, .int p3])).length) Slot.unset).toArray = ls at hl ⊢
  have hl : lv_has ls 5 [(0, .ref h0), (1, .int p0), (2, .int p1), (3, .int p2), (4, .int p3)] := hl
  refine W_gen (A := A) hP (fun H locs hP hS => ?_)
  refine lv_aload_n hx hb dX2_add_0 rfl (lv_at hl 0 rfl) ?_
  refine va_get (D := (dC, dI)) (ci := 2) (v := .int a0) (C := RX2) (T := TX2) (N := 8) hx hb hts hinX2 hown hK hP 0 rfl rfl 6 (by decide) (hts (.fieldLink RX2 31 "MayRings$Letters" "count" "I") (List.mem_of_getElem? (i := 1) rfl)) (fun _ h9 => h9) rfl dX2_add_1 ?_
  refine lv_bipush (v := 20) hx hb dX2_add_4 (by decide) ?_
  refine lv_icmp_lt (tgt := 11) hx hb dX2_add_6 (by decide) (fun c_1 => ?_) (fun c_1 => ?_)
  · skip
    have h_2 : rg (0) (19) a0 := by have ha := ha0; have hb_ := (rg_k (x := 20) (c := 20) (by decide)); simp only [rg, fa_lt, fa_le, fa_eq, (by decide : (20 : Int32).toInt = 20)] at ha hb_ c_1; simp only [rg]; omega
    refine lv_aload_n hx hb dX2_add_11 rfl (lv_at hl 0 rfl) ?_
    refine va_get (D := (dC, dI)) (ci := 2) (v := .ref h1) (C := RX2) (T := TX2) (N := 8) hx hb hts hinX2 hown hK hP 0 rfl rfl 0 (by decide) (hts (.fieldLink RX2 11 "MayRings$Letters" "house" "[I") (List.mem_of_getElem? (i := 2) rfl)) (fun _ h9 => h9) rfl dX2_add_12 ?_
    refine lv_aload_n hx hb dX2_add_15 rfl (lv_at hl 0 rfl) ?_
    refine va_get (D := (dC, dI)) (ci := 2) (v := .int a0) (C := RX2) (T := TX2) (N := 8) hx hb hts hinX2 hown hK hP 0 rfl rfl 6 (by decide) (hts (.fieldLink RX2 31 "MayRings$Letters" "count" "I") (List.mem_of_getElem? (i := 1) rfl)) (fun _ h9 => h9) rfl dX2_add_16 ?_
    refine lv_iload_n hx hb dX2_add_19 rfl (lv_at hl 1 rfl) ?_
    refine va_iast hx hb hK hP hD hS 1 1 rfl rfl (rg_in (n := 20) (rg_mono h_2 (by decide) (by decide))) dX2_add_20 (fun H locs hP hD hS => ?_)
    obtain ⟨f_3, ef_3⟩ : ∃ f : Nat → Int32, f = upd g0 (a0 : Int32).toNatClampNeg p0 := ⟨_, rfl⟩
    rw [← ef_3] at hP hD
    have hf_3 : rgA (0) (8) f_3 := by rw [ef_3]; exact rgA_upd hg0 (rg_mono hp0 (by decide) (by decide))
    clear ef_3
    replace hP : va_P (dC, dI) vwCl [(h0, .inr (2, [.ref h1, .ref h2, .ref h3, .ref h4, .ref h5, .ref h6, .int a0, .int a1])), (h1, .inl (cI, 20, .inl f_3)), (h2, .inl (cI, 20, .inl g1)), (h3, .inl (cZ, 20, .inl g2)), (h4, .inl (cZ, 20, .inl g3)), (h5, .inl (cI, 20, .inl g4)), (h6, .inl (cI, 20, .inl g5))] H := hP
    replace hD : va_D A [(h0, .inr (2, [.ref h1, .ref h2, .ref h3, .ref h4, .ref h5, .ref h6, .int a0, .int a1])), (h1, .inl (cI, 20, .inl f_3)), (h2, .inl (cI, 20, .inl g1)), (h3, .inl (cZ, 20, .inl g2)), (h4, .inl (cZ, 20, .inl g3)), (h5, .inl (cI, 20, .inl g4)), (h6, .inl (cI, 20, .inl g5))] := hD
    refine lv_aload_n hx hb dX2_add_21 rfl (lv_at hl 0 rfl) ?_
    refine va_get (D := (dC, dI)) (ci := 2) (v := .ref h2) (C := RX2) (T := TX2) (N := 8) hx hb hts hinX2 hown hK hP 0 rfl rfl 1 (by decide) (hts (.fieldLink RX2 15 "MayRings$Letters" "where" "[I") (List.mem_of_getElem? (i := 3) rfl)) (fun _ h9 => h9) rfl dX2_add_22 ?_
    refine lv_aload_n hx hb dX2_add_25 rfl (lv_at hl 0 rfl) ?_
    refine va_get (D := (dC, dI)) (ci := 2) (v := .int a0) (C := RX2) (T := TX2) (N := 8) hx hb hts hinX2 hown hK hP 0 rfl rfl 6 (by decide) (hts (.fieldLink RX2 31 "MayRings$Letters" "count" "I") (List.mem_of_getElem? (i := 1) rfl)) (fun _ h9 => h9) rfl dX2_add_26 ?_
    refine lv_iload_n hx hb dX2_add_29 rfl (lv_at hl 2 rfl) ?_
    refine va_iast hx hb hK hP hD hS 2 1 rfl rfl (rg_in (n := 20) (rg_mono h_2 (by decide) (by decide))) dX2_add_30 (fun H locs hP hD hS => ?_)
    obtain ⟨f_4, ef_4⟩ : ∃ f : Nat → Int32, f = upd g1 (a0 : Int32).toNatClampNeg p1 := ⟨_, rfl⟩
    rw [← ef_4] at hP hD
    have hf_4 : rgA (0) (8) f_4 := by rw [ef_4]; exact rgA_upd hg1 (rg_mono hp1 (by decide) (by decide))
    clear ef_4
    replace hP : va_P (dC, dI) vwCl [(h0, .inr (2, [.ref h1, .ref h2, .ref h3, .ref h4, .ref h5, .ref h6, .int a0, .int a1])), (h1, .inl (cI, 20, .inl f_3)), (h2, .inl (cI, 20, .inl f_4)), (h3, .inl (cZ, 20, .inl g2)), (h4, .inl (cZ, 20, .inl g3)), (h5, .inl (cI, 20, .inl g4)), (h6, .inl (cI, 20, .inl g5))] H := hP
    replace hD : va_D A [(h0, .inr (2, [.ref h1, .ref h2, .ref h3, .ref h4, .ref h5, .ref h6, .int a0, .int a1])), (h1, .inl (cI, 20, .inl f_3)), (h2, .inl (cI, 20, .inl f_4)), (h3, .inl (cZ, 20, .inl g2)), (h4, .inl (cZ, 20, .inl g3)), (h5, .inl (cI, 20, .inl g4)), (h6, .inl (cI, 20, .inl g5))] := hD
    refine lv_aload_n hx hb dX2_add_31 rfl (lv_at hl 0 rfl) ?_
    refine va_get (D := (dC, dI)) (ci := 2) (v := .ref h3) (C := RX2) (T := TX2) (N := 8) hx hb hts hinX2 hown hK hP 0 rfl rfl 2 (by decide) (hts (.fieldLink RX2 18 "MayRings$Letters" "ofPlace" "[Z") (List.mem_of_getElem? (i := 4) rfl)) (fun _ h9 => h9) rfl dX2_add_32 ?_
    refine lv_aload_n hx hb dX2_add_35 rfl (lv_at hl 0 rfl) ?_
    refine va_get (D := (dC, dI)) (ci := 2) (v := .int a0) (C := RX2) (T := TX2) (N := 8) hx hb hts hinX2 hown hK hP 0 rfl rfl 6 (by decide) (hts (.fieldLink RX2 31 "MayRings$Letters" "count" "I") (List.mem_of_getElem? (i := 1) rfl)) (fun _ h9 => h9) rfl dX2_add_36 ?_
    refine lv_iload_n hx hb dX2_add_39 rfl (lv_at hl 3 rfl) ?_
    refine va_zast hx hb hK hP hD hS 3 3 rfl rfl (rg_in (n := 20) (rg_mono h_2 (by decide) (by decide))) dX2_add_40 (fun H locs hP hD hS => ?_)
    obtain ⟨f_5, ef_5⟩ : ∃ f : Nat → Int32, f = upd g2 (a0 : Int32).toNatClampNeg (vp_nar .boolean p2) := ⟨_, rfl⟩
    rw [← ef_5] at hP hD
    have hf_5 : rgA (0) (1) f_5 := by rw [ef_5]; exact rgA_updZ hg2 (rg_mono hp2 (by decide) (by decide)) (rg_mono hp2 (by decide) (by decide))
    clear ef_5
    replace hP : va_P (dC, dI) vwCl [(h0, .inr (2, [.ref h1, .ref h2, .ref h3, .ref h4, .ref h5, .ref h6, .int a0, .int a1])), (h1, .inl (cI, 20, .inl f_3)), (h2, .inl (cI, 20, .inl f_4)), (h3, .inl (cZ, 20, .inl f_5)), (h4, .inl (cZ, 20, .inl g3)), (h5, .inl (cI, 20, .inl g4)), (h6, .inl (cI, 20, .inl g5))] H := hP
    replace hD : va_D A [(h0, .inr (2, [.ref h1, .ref h2, .ref h3, .ref h4, .ref h5, .ref h6, .int a0, .int a1])), (h1, .inl (cI, 20, .inl f_3)), (h2, .inl (cI, 20, .inl f_4)), (h3, .inl (cZ, 20, .inl f_5)), (h4, .inl (cZ, 20, .inl g3)), (h5, .inl (cI, 20, .inl g4)), (h6, .inl (cI, 20, .inl g5))] := hD
    refine lv_aload_n hx hb dX2_add_41 rfl (lv_at hl 0 rfl) ?_
    refine va_get (D := (dC, dI)) (ci := 2) (v := .ref h4) (C := RX2) (T := TX2) (N := 8) hx hb hts hinX2 hown hK hP 0 rfl rfl 3 (by decide) (hts (.fieldLink RX2 22 "MayRings$Letters" "isSo" "[Z") (List.mem_of_getElem? (i := 5) rfl)) (fun _ h9 => h9) rfl dX2_add_42 ?_
    refine lv_aload_n hx hb dX2_add_45 rfl (lv_at hl 0 rfl) ?_
    refine va_get (D := (dC, dI)) (ci := 2) (v := .int a0) (C := RX2) (T := TX2) (N := 8) hx hb hts hinX2 hown hK hP 0 rfl rfl 6 (by decide) (hts (.fieldLink RX2 31 "MayRings$Letters" "count" "I") (List.mem_of_getElem? (i := 1) rfl)) (fun _ h9 => h9) rfl dX2_add_46 ?_
    refine lv_iload hx hb dX2_add_49 (lv_at hl 4 rfl) ?_
    refine va_zast hx hb hK hP hD hS 4 3 rfl rfl (rg_in (n := 20) (rg_mono h_2 (by decide) (by decide))) dX2_add_51 (fun H locs hP hD hS => ?_)
    obtain ⟨f_6, ef_6⟩ : ∃ f : Nat → Int32, f = upd g3 (a0 : Int32).toNatClampNeg (vp_nar .boolean p3) := ⟨_, rfl⟩
    rw [← ef_6] at hP hD
    have hf_6 : rgA (0) (1) f_6 := by rw [ef_6]; exact rgA_updZ hg3 (rg_mono hp3 (by decide) (by decide)) (rg_mono hp3 (by decide) (by decide))
    clear ef_6
    replace hP : va_P (dC, dI) vwCl [(h0, .inr (2, [.ref h1, .ref h2, .ref h3, .ref h4, .ref h5, .ref h6, .int a0, .int a1])), (h1, .inl (cI, 20, .inl f_3)), (h2, .inl (cI, 20, .inl f_4)), (h3, .inl (cZ, 20, .inl f_5)), (h4, .inl (cZ, 20, .inl f_6)), (h5, .inl (cI, 20, .inl g4)), (h6, .inl (cI, 20, .inl g5))] H := hP
    replace hD : va_D A [(h0, .inr (2, [.ref h1, .ref h2, .ref h3, .ref h4, .ref h5, .ref h6, .int a0, .int a1])), (h1, .inl (cI, 20, .inl f_3)), (h2, .inl (cI, 20, .inl f_4)), (h3, .inl (cZ, 20, .inl f_5)), (h4, .inl (cZ, 20, .inl f_6)), (h5, .inl (cI, 20, .inl g4)), (h6, .inl (cI, 20, .inl g5))] := hD
    refine lv_aload_n hx hb dX2_add_52 rfl (lv_at hl 0 rfl) ?_
    refine va_get (D := (dC, dI)) (ci := 2) (v := .ref h5) (C := RX2) (T := TX2) (N := 8) hx hb hts hinX2 hown hK hP 0 rfl rfl 4 (by decide) (hts (.fieldLink RX2 25 "MayRings$Letters" "toldAt" "[I") (List.mem_of_getElem? (i := 6) rfl)) (fun _ h9 => h9) rfl dX2_add_53 ?_
    refine lv_aload_n hx hb dX2_add_56 rfl (lv_at hl 0 rfl) ?_
    refine va_get (D := (dC, dI)) (ci := 2) (v := .int a0) (C := RX2) (T := TX2) (N := 8) hx hb hts hinX2 hown hK hP 0 rfl rfl 6 (by decide) (hts (.fieldLink RX2 31 "MayRings$Letters" "count" "I") (List.mem_of_getElem? (i := 1) rfl)) (fun _ h9 => h9) rfl dX2_add_57 ?_
    refine lv_aload_n hx hb dX2_add_60 rfl (lv_at hl 0 rfl) ?_
    refine va_get (D := (dC, dI)) (ci := 2) (v := .int a1) (C := RX2) (T := TX2) (N := 8) hx hb hts hinX2 hown hK hP 0 rfl rfl 7 (by decide) (hts (.fieldLink RX2 35 "MayRings$Letters" "time" "I") (List.mem_of_getElem? (i := 7) rfl)) (fun _ h9 => h9) rfl dX2_add_61 ?_
    refine va_iast hx hb hK hP hD hS 5 1 rfl rfl (rg_in (n := 20) (rg_mono h_2 (by decide) (by decide))) dX2_add_64 (fun H locs hP hD hS => ?_)
    obtain ⟨f_7, ef_7⟩ : ∃ f : Nat → Int32, f = upd g4 (a0 : Int32).toNatClampNeg a1 := ⟨_, rfl⟩
    rw [← ef_7] at hP hD
    clear ef_7
    replace hP : va_P (dC, dI) vwCl [(h0, .inr (2, [.ref h1, .ref h2, .ref h3, .ref h4, .ref h5, .ref h6, .int a0, .int a1])), (h1, .inl (cI, 20, .inl f_3)), (h2, .inl (cI, 20, .inl f_4)), (h3, .inl (cZ, 20, .inl f_5)), (h4, .inl (cZ, 20, .inl f_6)), (h5, .inl (cI, 20, .inl f_7)), (h6, .inl (cI, 20, .inl g5))] H := hP
    replace hD : va_D A [(h0, .inr (2, [.ref h1, .ref h2, .ref h3, .ref h4, .ref h5, .ref h6, .int a0, .int a1])), (h1, .inl (cI, 20, .inl f_3)), (h2, .inl (cI, 20, .inl f_4)), (h3, .inl (cZ, 20, .inl f_5)), (h4, .inl (cZ, 20, .inl f_6)), (h5, .inl (cI, 20, .inl f_7)), (h6, .inl (cI, 20, .inl g5))] := hD
    refine lv_aload_n hx hb dX2_add_65 rfl (lv_at hl 0 rfl) ?_
    refine va_get (D := (dC, dI)) (ci := 2) (v := .ref h6) (C := RX2) (T := TX2) (N := 8) hx hb hts hinX2 hown hK hP 0 rfl rfl 5 (by decide) (hts (.fieldLink RX2 28 "MayRings$Letters" "untoldAt" "[I") (List.mem_of_getElem? (i := 8) rfl)) (fun _ h9 => h9) rfl dX2_add_66 ?_
    refine lv_aload_n hx hb dX2_add_69 rfl (lv_at hl 0 rfl) ?_
    refine va_get (D := (dC, dI)) (ci := 2) (v := .int a0) (C := RX2) (T := TX2) (N := 8) hx hb hts hinX2 hown hK hP 0 rfl rfl 6 (by decide) (hts (.fieldLink RX2 31 "MayRings$Letters" "count" "I") (List.mem_of_getElem? (i := 1) rfl)) (fun _ h9 => h9) rfl dX2_add_70 ?_
    refine lv_iconst (v := (-1)) hx hb dX2_add_73 (by decide) ?_
    refine va_iast hx hb hK hP hD hS 6 1 rfl rfl (rg_in (n := 20) (rg_mono h_2 (by decide) (by decide))) dX2_add_74 (fun H locs hP hD hS => ?_)
    obtain ⟨f_8, ef_8⟩ : ∃ f : Nat → Int32, f = upd g5 (a0 : Int32).toNatClampNeg (-1) := ⟨_, rfl⟩
    rw [← ef_8] at hP hD
    clear ef_8
    replace hP : va_P (dC, dI) vwCl [(h0, .inr (2, [.ref h1, .ref h2, .ref h3, .ref h4, .ref h5, .ref h6, .int a0, .int a1])), (h1, .inl (cI, 20, .inl f_3)), (h2, .inl (cI, 20, .inl f_4)), (h3, .inl (cZ, 20, .inl f_5)), (h4, .inl (cZ, 20, .inl f_6)), (h5, .inl (cI, 20, .inl f_7)), (h6, .inl (cI, 20, .inl f_8))] H := hP
    replace hD : va_D A [(h0, .inr (2, [.ref h1, .ref h2, .ref h3, .ref h4, .ref h5, .ref h6, .int a0, .int a1])), (h1, .inl (cI, 20, .inl f_3)), (h2, .inl (cI, 20, .inl f_4)), (h3, .inl (cZ, 20, .inl f_5)), (h4, .inl (cZ, 20, .inl f_6)), (h5, .inl (cI, 20, .inl f_7)), (h6, .inl (cI, 20, .inl f_8))] := hD
    refine lv_aload_n hx hb dX2_add_75 rfl (lv_at hl 0 rfl) ?_
    refine lv_dup hx hb dX2_add_76 rfl ?_
    refine va_get (D := (dC, dI)) (ci := 2) (v := .int a0) (C := RX2) (T := TX2) (N := 8) hx hb hts hinX2 hown hK hP 0 rfl rfl 6 (by decide) (hts (.fieldLink RX2 31 "MayRings$Letters" "count" "I") (List.mem_of_getElem? (i := 1) rfl)) (fun _ h9 => h9) rfl dX2_add_77 ?_
    refine lv_iconst (v := 1) hx hb dX2_add_80 (by decide) ?_
    refine lv_iadd hx hb dX2_add_81 ?_
    refine lv_topi (fun x_9 ex_9 => ?_)
    have hx_9 : rg (1) (20) x_9 := by rw [ex_9]; exact rg_mono (rg_add h_2 (rg_k (x := 1) (c := 1) (by decide)) (by decide) (by decide)) (by decide) (by decide)
    have qx_9 : x_9.toInt = a0.toInt + (1) := by rw [ex_9]; exact rg_addE h_2 (rg_k (x := 1) (c := 1) (by decide)) (by decide) (by decide) trivial
    refine va_put (D := (dC, dI)) (ci := 2) (v := .int x_9) (ty := .int) (C := RX2) (T := TX2) (N := 8) hx hb hts hinX2 tyX2 tyX2_ok nmX2 hown hK hP hD hS 0 rfl rfl 6 (by decide) (hts (.fieldLink RX2 31 "MayRings$Letters" "count" "I") (List.mem_of_getElem? (i := 1) rfl)) (fun _ h9 => h9) rfl (by decide +kernel) (rfl) (rfl) (Nat.le_of_ble_eq_true rfl) dX2_add_82 (fun H locs hP hD hS => ?_)
    replace hP : va_P (dC, dI) vwCl [(h0, .inr (2, [.ref h1, .ref h2, .ref h3, .ref h4, .ref h5, .ref h6, .int x_9, .int a1])), (h1, .inl (cI, 20, .inl f_3)), (h2, .inl (cI, 20, .inl f_4)), (h3, .inl (cZ, 20, .inl f_5)), (h4, .inl (cZ, 20, .inl f_6)), (h5, .inl (cI, 20, .inl f_7)), (h6, .inl (cI, 20, .inl f_8))] H := hP
    replace hD : va_D A [(h0, .inr (2, [.ref h1, .ref h2, .ref h3, .ref h4, .ref h5, .ref h6, .int x_9, .int a1])), (h1, .inl (cI, 20, .inl f_3)), (h2, .inl (cI, 20, .inl f_4)), (h3, .inl (cZ, 20, .inl f_5)), (h4, .inl (cZ, 20, .inl f_6)), (h5, .inl (cI, 20, .inl f_7)), (h6, .inl (cI, 20, .inl f_8))] := hD
    refine lv_aload_n hx hb dX2_add_85 rfl (lv_at hl 0 rfl) ?_
    refine va_get (D := (dC, dI)) (ci := 2) (v := .int x_9) (C := RX2) (T := TX2) (N := 8) hx hb hts hinX2 hown hK hP 0 rfl rfl 6 (by decide) (hts (.fieldLink RX2 31 "MayRings$Letters" "count" "I") (List.mem_of_getElem? (i := 1) rfl)) (fun _ h9 => h9) rfl dX2_add_86 ?_
    refine lv_iconst (v := 1) hx hb dX2_add_89 (by decide) ?_
    refine lv_isub hx hb dX2_add_90 ?_
    refine lv_topi (fun x_10 ex_10 => ?_)
    have hx_10 : rg (0) (19) x_10 := by rw [ex_10]; exact rg_mono (rg_sub hx_9 (rg_k (x := 1) (c := 1) (by decide)) (by decide) (by decide)) (by decide) (by decide)
    have qx_10 : x_10.toInt = x_9.toInt + (-1) := by rw [ex_10]; exact rg_subE hx_9 (rg_k (x := 1) (c := 1) (by decide)) (by decide) (by decide) trivial
    have hP9 := hP.sub (ws' := [(h0, .inr (2, [.ref h1, .ref h2, .ref h3, .ref h4, .ref h5, .ref h6, .int x_9, .int a1])), (h1, .inl (cI, 20, .inl f_3)), (h2, .inl (cI, 20, .inl f_4)), (h3, .inl (cZ, 20, .inl f_5)), (h4, .inl (cZ, 20, .inl f_6)), (h5, .inl (cI, 20, .inl f_7)), (h6, .inl (cI, 20, .inl f_8))]) [0, 1, 2, 3, 4, 5, 6] rfl
    have hD9 := hD.sub (ws' := [(h0, .inr (2, [.ref h1, .ref h2, .ref h3, .ref h4, .ref h5, .ref h6, .int x_9, .int a1])), (h1, .inl (cI, 20, .inl f_3)), (h2, .inl (cI, 20, .inl f_4)), (h3, .inl (cZ, 20, .inl f_5)), (h4, .inl (cZ, 20, .inl f_6)), (h5, .inl (cI, 20, .inl f_7)), (h6, .inl (cI, 20, .inl f_8))]) [0, 1, 2, 3, 4, 5, 6] (by decide) rfl
    exact W.iret (v := x_10) hx hb hr (fun t ht hW => ⟨⟨x_10, (), rfl, (rg_mono hx_10 (by decide) (by decide)), ⟨x_9, f_3, f_4, f_5, f_6, f_7, f_8, (rg_mono hx_9 (by decide) (by decide)), hf_3, hf_4, hf_5, hf_6, by rw [ht]; exact hP9, hD9⟩⟩, hS.F ht⟩) hS.2.2 dX2_add_91
  · skip
    have h_11 : rg (20) (20) a0 := by have ha := ha0; have hb_ := (rg_k (x := 20) (c := 20) (by decide)); simp only [rg, fa_lt, fa_le, fa_eq, (by decide : (20 : Int32).toInt = 20)] at ha hb_ c_1; simp only [rg]; omega
    refine lv_iconst (v := (-1)) hx hb dX2_add_9 (by decide) ?_
    have hP9 := hP.sub (ws' := [(h0, .inr (2, [.ref h1, .ref h2, .ref h3, .ref h4, .ref h5, .ref h6, .int a0, .int a1])), (h1, .inl (cI, 20, .inl g0)), (h2, .inl (cI, 20, .inl g1)), (h3, .inl (cZ, 20, .inl g2)), (h4, .inl (cZ, 20, .inl g3)), (h5, .inl (cI, 20, .inl g4)), (h6, .inl (cI, 20, .inl g5))]) [0, 1, 2, 3, 4, 5, 6] rfl
    have hD9 := hD.sub (ws' := [(h0, .inr (2, [.ref h1, .ref h2, .ref h3, .ref h4, .ref h5, .ref h6, .int a0, .int a1])), (h1, .inl (cI, 20, .inl g0)), (h2, .inl (cI, 20, .inl g1)), (h3, .inl (cZ, 20, .inl g2)), (h4, .inl (cZ, 20, .inl g3)), (h5, .inl (cI, 20, .inl g4)), (h6, .inl (cI, 20, .inl g5))]) [0, 1, 2, 3, 4, 5, 6] (by decide) rfl
    exact W.iret (v := (-1)) hx hb hr (fun t ht hW => ⟨⟨(-1), (), rfl, (rg_mono (rg_k (x := (-1)) (c := -1) (by decide)) (by decide) (by decide)), ⟨a0, g0, g1, g2, g3, g4, g5, (rg_mono h_11 (by decide) (by decide)), hg0, hg1, hg2, hg3, by rw [ht]; exact hP9, hD9⟩⟩, hS.F ht⟩) hS.2.2 dX2_add_10
def v_s_X7_heedPair : List Cond := Cond.code yX7_heedPair cX7_heedPair 4 none :: ([Cond.fieldLink RX7 30 "MayRings$Ways" "houses" "I", Cond.fieldLink RX7 44 "MayRings$Ways" "never" "Z", Cond.fieldLink RX7 18 "MayRings$Ways" "must" "[I", Cond.fieldLink RX7 15 "MayRings$Ways" "pairs" "[I"] ++ (wsX70 ++ ([])))
theorem k_s_X7_heedPair : GoodIn lw_tbl v_s_X7_heedPair := gd_c (List.mem_of_getElem? (i := 1186) (by decide +kernel)) rfl (goodIn_app (gd_c (List.mem_of_getElem? (i := 452) (by decide +kernel)) rfl (gd_c (List.mem_of_getElem? (i := 461) (by decide +kernel)) rfl (gd_c (List.mem_of_getElem? (i := 446) (by decide +kernel)) rfl (gd_c (List.mem_of_getElem? (i := 443) (by decide +kernel)) rfl (gd_nil))))) (goodIn_app kfX7 (gd_nil)))
set_option maxHeartbeats 2000000 in
set_option maxRecDepth 100000 in
theorem c_s_X7_heedPair (l : Launch) (dC : Nat → ClassId) (dI : Nat → Nat → Nat) (cB cI cJ cZ cP : ClassId) (h0 : Nat) (h1 : Nat) (h2 : Nat) (g1 : Nat → Int32) (hg1 : rgA (0) (511) g1) (h3 : Nat) (g2 : Nat → Int32) (hg2 : rgA (0) (511) g2) (h4 : Nat) (h5 : Nat) (h6 : Nat) (a0 : Int32) (ha0 : rg (0) (511) a0) (a1 : Int32) (a2 : Int32) (a3 : Int32) (a4 : Int32) (ha4 : rg (0) (1) a4) (a5 : Int32) (a6 : Int32) (a7 : Int32) (p0 : Int32) (hp0 : rg (0) (8) p0) (p1 : Int32) (hp1 : rg (0) (8) p1) (p2 : Int32) (hp2 : rg (0) (1) p2) (sz : Nat) : Met l yX7_heedPair v_s_X7_heedPair ({ frames := 0, cells := 0, slots := 0, locals := 0 }) (va_Pc [.ref h0, .int p0, .int p1, .int p2] (fun U => U.heap.size = sz ∧ va_P (dC, dI) vwCl [(h0, .inr (7, [.ref h1, .ref h2, .ref h3, .ref h4, .ref h5, .ref h6, .int a0, .int a1, .int a2, .int a3, .int a4, .int a5, .int a6, .int a7])), (h2, .inl (cI, 9, .inl g1)), (h3, .inl (cI, 9, .inl g2))] U.heap ∧ va_K (dC, dI) vwCl (ty5 cB cI cJ cZ cP) U ∧ va_D (fun _ => True) [(h0, .inr (7, [.ref h1, .ref h2, .ref h3, .ref h4, .ref h5, .ref h6, .int a0, .int a1, .int a2, .int a3, .int a4, .int a5, .int a6, .int a7])), (h2, .inl (cI, 9, .inl g1)), (h3, .inl (cI, 9, .inl g2))])) (va_Qv (fun _ : Unit => True) (fun _ t => ∃ (z0 : Int32) (z1 : Nat → Int32) (z2 : Nat → Int32), rg (0) (1) z0 ∧ rgA (0) (511) z1 ∧ rgA (0) (511) z2 ∧ va_P (dC, dI) vwCl [(h0, .inr (7, [.ref h1, .ref h2, .ref h3, .ref h4, .ref h5, .ref h6, .int a0, .int a1, .int a2, .int a3, .int z0, .int a5, .int a6, .int a7])), (h2, .inl (cI, 9, .inl z1)), (h3, .inl (cI, 9, .inl z2))] t.heap ∧ va_D (va_A [(h0, .inr (7, [.ref h1, .ref h2, .ref h3, .ref h4, .ref h5, .ref h6, .int a0, .int a1, .int a2, .int a3, .int a4, .int a5, .int a6, .int a7])), (h2, .inl (cI, 9, .inl g1)), (h3, .inl (cI, 9, .inl g2))] sz) [(h0, .inr (7, [.ref h1, .ref h2, .ref h3, .ref h4, .ref h5, .ref h6, .int a0, .int a1, .int a2, .int a3, .int z0, .int a5, .int a6, .int a7])), (h2, .inl (cI, 9, .inl z1)), (h3, .inl (cI, 9, .inl z2))]) (va_A [(h0, .inr (7, [.ref h1, .ref h2, .ref h3, .ref h4, .ref h5, .ref h6, .int a0, .int a1, .int a2, .int a3, .int a4, .int a5, .int a6, .int a7])), (h2, .inl (cI, 9, .inl g1)), (h3, .inl (cI, 9, .inl g2))] sz)) 0 0 (va_A [(h0, .inr (7, [.ref h1, .ref h2, .ref h3, .ref h4, .ref h5, .ref h6, .int a0, .int a1, .int a2, .int a3, .int a4, .int a5, .int a6, .int a7])), (h2, .inl (cI, 9, .inl g1)), (h3, .inl (cI, 9, .inl g2))] sz) := by
  refine Met.ofW (cc := cX7_heedPair) (maxL := 4) (ret := none) (by decide) rfl ?_
  intro p e s m args below meth c s₁ B hml hv
  obtain ⟨rfl, hsz, hP, hK, hD0⟩ := hv
  have hx := B.exec
  have hb := B.bytes
  have hr := B.returns
  have hts := atoms_spec (ws := v_s_X7_heedPair) B.pre
  have hown : s.vm.findClass RX7 = some m.cls := findClass_of_methodNamed B.named
  have hlocks := B.notSynchronized
  have hinX7 : ∀ w ∈ wsX70, w ∈ v_s_X7_heedPair := fun _ h => List.mem_cons_of_mem _ (List.mem_append_right _ (List.mem_append_left _ h))
  subst hsz
  have hD := hD0.self (sz := s.heap.size)
  generalize hAe : va_A [(h0, .inr (7, [.ref h1, .ref h2, .ref h3, .ref h4, .ref h5, .ref h6, .int a0, .int a1, .int a2, .int a3, .int a4, .int a5, .int a6, .int a7])), (h2, .inl (cI, 9, .inl g1)), (h3, .inl (cI, 9, .inl g2))] s.heap.size = A at hD ⊢
  have hA : ∀ q : Nat, s.heap.size ≤ q → A q := fun q h => by rw [← hAe]; exact Or.inr h
  have hP : va_P (dC, dI) vwCl [(h0, .inr (7, [.ref h1, .ref h2, .ref h3, .ref h4, .ref h5, .ref h6, .int a0, .int a1, .int a2, .int a3, .int a4, .int a5, .int a6, .int a7])), (h2, .inl (cI, 9, .inl g1)), (h3, .inl (cI, 9, .inl g2))] s.heap := hP
  have hl := lv_entry ([.ref h0, .int p0, .int p1, .int p2]) (n := 4) (Nat.le_of_ble_eq_true rfl)
  rw [lg_entry_eq]
  generalize (lg_sl ([.ref h0, .int p0, .int p1, .int p2]) ++ List.replicate (4 - (lg_sl ([.ref h0, .int p0, .int p1, .int p2])).length) Slot.unset).toArray = ls at hl ⊢
  have hl : lv_has ls 4 [(0, .ref h0), (1, .int p0), (2, .int p1), (3, .int p2)] := hl
  refine W_gen (A := A) hP (fun H locs hP hS => ?_)
  refine lv_iload_n hx hb dX7_heedPair_0 rfl (lv_at hl 3 rfl) ?_
  refine lv_if_ne (tgt := 35) hx hb dX7_heedPair_1 (by decide) (fun c_1 => ?_) (fun c_1 => ?_)
  · skip
    have h_2 : rg (1) (1) p2 := by have ha := hp2; have hb_ := (rg_k (x := 0) (c := 0) (by decide)); simp only [rg, fa_lt, fa_le, fa_eq, (by decide : (0 : Int32).toInt = 0)] at ha hb_ c_1; simp only [rg]; omega
    refine lv_aload_n hx hb dX7_heedPair_35 rfl (lv_at hl 0 rfl) ?_
    refine va_get (D := (dC, dI)) (ci := 7) (v := .int a0) (C := RX7) (T := TX7) (N := 14) hx hb hts hinX7 hown hK hP 0 rfl rfl 6 (by decide) (hts (.fieldLink RX7 30 "MayRings$Ways" "houses" "I") (List.mem_of_getElem? (i := 1) rfl)) (fun _ h9 => h9) rfl dX7_heedPair_36 ?_
    refine lv_iload_n hx hb dX7_heedPair_39 rfl (lv_at hl 1 rfl) ?_
    refine lv_ishr hx hb dX7_heedPair_40 ?_
    refine lv_topi (fun x_3 ex_3 => ?_)
    have hx_3 : rg (0) (511) x_3 := by rw [ex_3]; exact rg_mono (rg_shr (b := 511) (rg_mono ha0 (by decide) (by decide))) (by decide) (by decide)
    have kx_3_0 : rg 1 2147483647 x_3 → rg 1 (511) a0 := fun hq => rg_shrP ha0 (ex_3 ▸ hq)
    refine lv_aload_n hx hb dX7_heedPair_41 rfl (lv_at hl 0 rfl) ?_
    refine va_get (D := (dC, dI)) (ci := 7) (v := .int a0) (C := RX7) (T := TX7) (N := 14) hx hb hts hinX7 hown hK hP 0 rfl rfl 6 (by decide) (hts (.fieldLink RX7 30 "MayRings$Ways" "houses" "I") (List.mem_of_getElem? (i := 1) rfl)) (fun _ h9 => h9) rfl dX7_heedPair_42 ?_
    refine lv_iload_n hx hb dX7_heedPair_45 rfl (lv_at hl 2 rfl) ?_
    refine lv_ishr hx hb dX7_heedPair_46 ?_
    refine lv_topi (fun x_4 ex_4 => ?_)
    have hx_4 : rg (0) (511) x_4 := by rw [ex_4]; exact rg_mono (rg_shr (b := 511) (rg_mono ha0 (by decide) (by decide))) (by decide) (by decide)
    have kx_4_0 : rg 1 2147483647 x_4 → rg 1 (511) a0 := fun hq => rg_shrP ha0 (ex_4 ▸ hq)
    refine lv_iand hx hb dX7_heedPair_47 ?_
    refine lv_topi (fun x_5 ex_5 => ?_)
    have hx_5 : rg (0) (511) x_5 := by rw [ex_5]; exact rg_mono (rg_andl (b := 511) (rg_mono hx_3 (by decide) (by decide))) (by decide) (by decide)
    have kx_5_0 : rg 1 2147483647 x_5 → rg 1 (511) x_3 := fun hq => rg_andP hx_3 (ex_5 ▸ hq)
    have kx_5_1 : rg 1 2147483647 x_5 → rg 1 (511) x_4 := fun hq => rg_andP' hx_4 (ex_5 ▸ hq)
    refine lv_iconst (v := 1) hx hb dX7_heedPair_48 (by decide) ?_
    refine lv_iand hx hb dX7_heedPair_49 ?_
    refine lv_topi (fun x_6 ex_6 => ?_)
    have hx_6 : rg (0) (1) x_6 := by rw [ex_6]; exact rg_mono (rg_andr (b := 1) (rg_mono (rg_k (x := 1) (c := 1) (by decide)) (by decide) (by decide))) (by decide) (by decide)
    have kx_6_0 : rg 1 2147483647 x_6 → rg 1 (511) x_5 := fun hq => rg_andP hx_5 (ex_6 ▸ hq)
    refine lv_iconst (v := 1) hx hb dX7_heedPair_50 (by decide) ?_
    refine lv_icmp_ne (tgt := 81) hx hb dX7_heedPair_51 (by decide) (fun c_7 => ?_) (fun c_7 => ?_)
    · skip
      have h_8 : rg (0) (0) x_6 := by have ha := hx_6; have hb_ := (rg_k (x := 1) (c := 1) (by decide)); simp only [rg, fa_lt, fa_le, fa_eq, (by decide : (1 : Int32).toInt = 1)] at ha hb_ c_7; simp only [rg]; omega
      refine lv_aload_n hx hb dX7_heedPair_81 rfl (lv_at hl 0 rfl) ?_
      refine lv_iconst (v := 1) hx hb dX7_heedPair_82 (by decide) ?_
      refine va_put (D := (dC, dI)) (ci := 7) (v := .int 1) (ty := .boolean) (C := RX7) (T := TX7) (N := 14) hx hb hts hinX7 tyX7 tyX7_ok nmX7 hown hK hP hD hS 0 rfl rfl 10 (by decide) (hts (.fieldLink RX7 44 "MayRings$Ways" "never" "Z") (List.mem_of_getElem? (i := 2) rfl)) (fun _ h9 => h9) rfl (by decide +kernel) (rfl) (rfl) (Nat.le_of_ble_eq_true rfl) dX7_heedPair_83 (fun H locs hP hD hS => ?_)
      replace hP : va_P (dC, dI) vwCl [(h0, .inr (7, [.ref h1, .ref h2, .ref h3, .ref h4, .ref h5, .ref h6, .int a0, .int a1, .int a2, .int a3, .int 1, .int a5, .int a6, .int a7])), (h2, .inl (cI, 9, .inl g1)), (h3, .inl (cI, 9, .inl g2))] H := hP
      replace hD : va_D A [(h0, .inr (7, [.ref h1, .ref h2, .ref h3, .ref h4, .ref h5, .ref h6, .int a0, .int a1, .int a2, .int a3, .int 1, .int a5, .int a6, .int a7])), (h2, .inl (cI, 9, .inl g1)), (h3, .inl (cI, 9, .inl g2))] := hD
      have hP9 := hP.sub (ws' := [(h0, .inr (7, [.ref h1, .ref h2, .ref h3, .ref h4, .ref h5, .ref h6, .int a0, .int a1, .int a2, .int a3, .int 1, .int a5, .int a6, .int a7])), (h2, .inl (cI, 9, .inl g1)), (h3, .inl (cI, 9, .inl g2))]) [0, 1, 2] rfl
      have hD9 := hD.sub (ws' := [(h0, .inr (7, [.ref h1, .ref h2, .ref h3, .ref h4, .ref h5, .ref h6, .int a0, .int a1, .int a2, .int a3, .int 1, .int a5, .int a6, .int a7])), (h2, .inl (cI, 9, .inl g1)), (h3, .inl (cI, 9, .inl g2))]) [0, 1, 2] (by decide) rfl
      exact W.vret hx hb hr (fun t ht hW => ⟨⟨(), rfl, trivial, ⟨1, g1, g2, (rg_mono (rg_k (x := 1) (c := 1) (by decide)) (by decide) (by decide)), hg1, hg2, by rw [ht]; exact hP9, hD9⟩⟩, hS.F ht⟩) hS.2.2 dX7_heedPair_86
    · skip
      have h_9 : rg (1) (1) x_6 := by have ha := hx_6; have hb_ := (rg_k (x := 1) (c := 1) (by decide)); simp only [rg, fa_lt, fa_le, fa_eq, (by decide : (1 : Int32).toInt = 1)] at ha hb_ c_7; simp only [rg]; omega
      have h_10 : rg (1) (511) x_5 := rg_meet hx_5 (kx_6_0 (rg_mono h_9 (by decide) (by decide))) (by decide) (by decide)
      have h_11 : rg (1) (511) x_3 := rg_meet hx_3 (kx_5_0 (rg_mono h_10 (by decide) (by decide))) (by decide) (by decide)
      have h_12 : rg (1) (511) a0 := rg_meet ha0 (kx_3_0 (rg_mono h_11 (by decide) (by decide))) (by decide) (by decide)
      have h_13 : rg (1) (511) x_4 := rg_meet hx_4 (kx_5_1 (rg_mono h_10 (by decide) (by decide))) (by decide) (by decide)
      refine lv_aload_n hx hb dX7_heedPair_54 rfl (lv_at hl 0 rfl) ?_
      refine va_get (D := (dC, dI)) (ci := 7) (v := .ref h3) (C := RX7) (T := TX7) (N := 14) hx hb hts hinX7 hown hK hP 0 rfl rfl 2 (by decide) (hts (.fieldLink RX7 18 "MayRings$Ways" "must" "[I") (List.mem_of_getElem? (i := 3) rfl)) (fun _ h9 => h9) rfl dX7_heedPair_55 ?_
      refine lv_iload_n hx hb dX7_heedPair_58 rfl (lv_at hl 1 rfl) ?_
      refine lv_dup2_11 hx hb dX7_heedPair_59 rfl rfl ?_
      refine va_iald hx hb hK hP 2 1 rfl rfl (rg_in (n := 9) (rg_mono hp0 (by decide) (by decide))) dX7_heedPair_60 ?_
      refine lv_topi (fun x_14 ex_14 => ?_)
      have hx_14 : rg (0) (511) x_14 := by rw [ex_14]; exact rg_mono (hg2 _) (by decide) (by decide)
      refine lv_iconst (v := 1) hx hb dX7_heedPair_61 (by decide) ?_
      refine lv_iload_n hx hb dX7_heedPair_62 rfl (lv_at hl 2 rfl) ?_
      refine lv_ishl hx hb dX7_heedPair_63 ?_
      refine lv_topi (fun x_15 ex_15 => ?_)
      have hx_15 : rg (1) (256) x_15 := by rw [ex_15]; exact rg_mono (rg_shl1 8 (rg_mono hp1 (by decide) (by decide)) (by decide)) (by decide) (by decide)
      refine lv_ior hx hb dX7_heedPair_64 ?_
      refine lv_topi (fun x_16 ex_16 => ?_)
      have hx_16 : rg (0) (511) x_16 := by rw [ex_16]; exact rg_mono (rg_or 9 (rg_mono hx_14 (by decide) (by decide)) (rg_mono hx_15 (by decide) (by decide)) (by decide)) (by decide) (by decide)
      refine va_iast hx hb hK hP hD hS 2 1 rfl rfl (rg_in (n := 9) (rg_mono hp0 (by decide) (by decide))) dX7_heedPair_65 (fun H locs hP hD hS => ?_)
      obtain ⟨f_17, ef_17⟩ : ∃ f : Nat → Int32, f = upd g2 (p0 : Int32).toNatClampNeg x_16 := ⟨_, rfl⟩
      rw [← ef_17] at hP hD
      have hf_17 : rgA (0) (511) f_17 := by rw [ef_17]; exact rgA_upd hg2 (rg_mono hx_16 (by decide) (by decide))
      clear ef_17
      replace hP : va_P (dC, dI) vwCl [(h0, .inr (7, [.ref h1, .ref h2, .ref h3, .ref h4, .ref h5, .ref h6, .int a0, .int a1, .int a2, .int a3, .int a4, .int a5, .int a6, .int a7])), (h2, .inl (cI, 9, .inl g1)), (h3, .inl (cI, 9, .inl f_17))] H := hP
      replace hD : va_D A [(h0, .inr (7, [.ref h1, .ref h2, .ref h3, .ref h4, .ref h5, .ref h6, .int a0, .int a1, .int a2, .int a3, .int a4, .int a5, .int a6, .int a7])), (h2, .inl (cI, 9, .inl g1)), (h3, .inl (cI, 9, .inl f_17))] := hD
      refine lv_aload_n hx hb dX7_heedPair_66 rfl (lv_at hl 0 rfl) ?_
      refine va_get (D := (dC, dI)) (ci := 7) (v := .ref h3) (C := RX7) (T := TX7) (N := 14) hx hb hts hinX7 hown hK hP 0 rfl rfl 2 (by decide) (hts (.fieldLink RX7 18 "MayRings$Ways" "must" "[I") (List.mem_of_getElem? (i := 3) rfl)) (fun _ h9 => h9) rfl dX7_heedPair_67 ?_
      refine lv_iload_n hx hb dX7_heedPair_70 rfl (lv_at hl 2 rfl) ?_
      refine lv_dup2_11 hx hb dX7_heedPair_71 rfl rfl ?_
      refine va_iald hx hb hK hP 2 1 rfl rfl (rg_in (n := 9) (rg_mono hp1 (by decide) (by decide))) dX7_heedPair_72 ?_
      refine lv_topi (fun x_18 ex_18 => ?_)
      have hx_18 : rg (0) (511) x_18 := by rw [ex_18]; exact rg_mono (hf_17 _) (by decide) (by decide)
      refine lv_iconst (v := 1) hx hb dX7_heedPair_73 (by decide) ?_
      refine lv_iload_n hx hb dX7_heedPair_74 rfl (lv_at hl 1 rfl) ?_
      refine lv_ishl hx hb dX7_heedPair_75 ?_
      refine lv_topi (fun x_19 ex_19 => ?_)
      have hx_19 : rg (1) (256) x_19 := by rw [ex_19]; exact rg_mono (rg_shl1 8 (rg_mono hp0 (by decide) (by decide)) (by decide)) (by decide) (by decide)
      refine lv_ior hx hb dX7_heedPair_76 ?_
      refine lv_topi (fun x_20 ex_20 => ?_)
      have hx_20 : rg (0) (511) x_20 := by rw [ex_20]; exact rg_mono (rg_or 9 (rg_mono hx_18 (by decide) (by decide)) (rg_mono hx_19 (by decide) (by decide)) (by decide)) (by decide) (by decide)
      refine va_iast hx hb hK hP hD hS 2 1 rfl rfl (rg_in (n := 9) (rg_mono hp1 (by decide) (by decide))) dX7_heedPair_77 (fun H locs hP hD hS => ?_)
      obtain ⟨f_21, ef_21⟩ : ∃ f : Nat → Int32, f = upd f_17 (p1 : Int32).toNatClampNeg x_20 := ⟨_, rfl⟩
      rw [← ef_21] at hP hD
      have hf_21 : rgA (0) (511) f_21 := by rw [ef_21]; exact rgA_upd hf_17 (rg_mono hx_20 (by decide) (by decide))
      clear ef_21
      replace hP : va_P (dC, dI) vwCl [(h0, .inr (7, [.ref h1, .ref h2, .ref h3, .ref h4, .ref h5, .ref h6, .int a0, .int a1, .int a2, .int a3, .int a4, .int a5, .int a6, .int a7])), (h2, .inl (cI, 9, .inl g1)), (h3, .inl (cI, 9, .inl f_21))] H := hP
      replace hD : va_D A [(h0, .inr (7, [.ref h1, .ref h2, .ref h3, .ref h4, .ref h5, .ref h6, .int a0, .int a1, .int a2, .int a3, .int a4, .int a5, .int a6, .int a7])), (h2, .inl (cI, 9, .inl g1)), (h3, .inl (cI, 9, .inl f_21))] := hD
      refine lv_goto (tgt := 86) hx hb dX7_heedPair_78 (by decide) ?_
      have hP9 := hP.sub (ws' := [(h0, .inr (7, [.ref h1, .ref h2, .ref h3, .ref h4, .ref h5, .ref h6, .int a0, .int a1, .int a2, .int a3, .int a4, .int a5, .int a6, .int a7])), (h2, .inl (cI, 9, .inl g1)), (h3, .inl (cI, 9, .inl f_21))]) [0, 1, 2] rfl
      have hD9 := hD.sub (ws' := [(h0, .inr (7, [.ref h1, .ref h2, .ref h3, .ref h4, .ref h5, .ref h6, .int a0, .int a1, .int a2, .int a3, .int a4, .int a5, .int a6, .int a7])), (h2, .inl (cI, 9, .inl g1)), (h3, .inl (cI, 9, .inl f_21))]) [0, 1, 2] (by decide) rfl
      exact W.vret hx hb hr (fun t ht hW => ⟨⟨(), rfl, trivial, ⟨a4, g1, f_21, (rg_mono ha4 (by decide) (by decide)), hg1, hf_21, by rw [ht]; exact hP9, hD9⟩⟩, hS.F ht⟩) hS.2.2 dX7_heedPair_86
  · skip
    have h_22 : rg (0) (0) p2 := by have ha := hp2; have hb_ := (rg_k (x := 0) (c := 0) (by decide)); simp only [rg, fa_lt, fa_le, fa_eq, (by decide : (0 : Int32).toInt = 0)] at ha hb_ c_1; simp only [rg]; omega
    refine lv_aload_n hx hb dX7_heedPair_4 rfl (lv_at hl 0 rfl) ?_
    refine va_get (D := (dC, dI)) (ci := 7) (v := .ref h2) (C := RX7) (T := TX7) (N := 14) hx hb hts hinX7 hown hK hP 0 rfl rfl 1 (by decide) (hts (.fieldLink RX7 15 "MayRings$Ways" "pairs" "[I") (List.mem_of_getElem? (i := 4) rfl)) (fun _ h9 => h9) rfl dX7_heedPair_5 ?_
    refine lv_iload_n hx hb dX7_heedPair_8 rfl (lv_at hl 1 rfl) ?_
    refine lv_dup2_11 hx hb dX7_heedPair_9 rfl rfl ?_
    refine va_iald hx hb hK hP 1 1 rfl rfl (rg_in (n := 9) (rg_mono hp0 (by decide) (by decide))) dX7_heedPair_10 ?_
    refine lv_topi (fun x_23 ex_23 => ?_)
    have hx_23 : rg (0) (511) x_23 := by rw [ex_23]; exact rg_mono (hg1 _) (by decide) (by decide)
    refine lv_iconst (v := 1) hx hb dX7_heedPair_11 (by decide) ?_
    refine lv_iload_n hx hb dX7_heedPair_12 rfl (lv_at hl 2 rfl) ?_
    refine lv_ishl hx hb dX7_heedPair_13 ?_
    refine lv_topi (fun x_24 ex_24 => ?_)
    have hx_24 : rg (1) (256) x_24 := by rw [ex_24]; exact rg_mono (rg_shl1 8 (rg_mono hp1 (by decide) (by decide)) (by decide)) (by decide) (by decide)
    refine lv_iconst (v := (-1)) hx hb dX7_heedPair_14 (by decide) ?_
    refine lv_ixor hx hb dX7_heedPair_15 ?_
    refine lv_topi (fun x_25 ex_25 => ?_)
    refine lv_iand hx hb dX7_heedPair_16 ?_
    refine lv_topi (fun x_26 ex_26 => ?_)
    have hx_26 : rg (0) (511) x_26 := by rw [ex_26]; exact rg_mono (rg_andl (b := 511) (rg_mono hx_23 (by decide) (by decide))) (by decide) (by decide)
    have kx_26_0 : rg 1 2147483647 x_26 → rg 1 (511) x_23 := fun hq => rg_andP hx_23 (ex_26 ▸ hq)
    refine va_iast hx hb hK hP hD hS 1 1 rfl rfl (rg_in (n := 9) (rg_mono hp0 (by decide) (by decide))) dX7_heedPair_17 (fun H locs hP hD hS => ?_)
    obtain ⟨f_27, ef_27⟩ : ∃ f : Nat → Int32, f = upd g1 (p0 : Int32).toNatClampNeg x_26 := ⟨_, rfl⟩
    rw [← ef_27] at hP hD
    have hf_27 : rgA (0) (511) f_27 := by rw [ef_27]; exact rgA_upd hg1 (rg_mono hx_26 (by decide) (by decide))
    clear ef_27
    replace hP : va_P (dC, dI) vwCl [(h0, .inr (7, [.ref h1, .ref h2, .ref h3, .ref h4, .ref h5, .ref h6, .int a0, .int a1, .int a2, .int a3, .int a4, .int a5, .int a6, .int a7])), (h2, .inl (cI, 9, .inl f_27)), (h3, .inl (cI, 9, .inl g2))] H := hP
    replace hD : va_D A [(h0, .inr (7, [.ref h1, .ref h2, .ref h3, .ref h4, .ref h5, .ref h6, .int a0, .int a1, .int a2, .int a3, .int a4, .int a5, .int a6, .int a7])), (h2, .inl (cI, 9, .inl f_27)), (h3, .inl (cI, 9, .inl g2))] := hD
    refine lv_aload_n hx hb dX7_heedPair_18 rfl (lv_at hl 0 rfl) ?_
    refine va_get (D := (dC, dI)) (ci := 7) (v := .ref h2) (C := RX7) (T := TX7) (N := 14) hx hb hts hinX7 hown hK hP 0 rfl rfl 1 (by decide) (hts (.fieldLink RX7 15 "MayRings$Ways" "pairs" "[I") (List.mem_of_getElem? (i := 4) rfl)) (fun _ h9 => h9) rfl dX7_heedPair_19 ?_
    refine lv_iload_n hx hb dX7_heedPair_22 rfl (lv_at hl 2 rfl) ?_
    refine lv_dup2_11 hx hb dX7_heedPair_23 rfl rfl ?_
    refine va_iald hx hb hK hP 1 1 rfl rfl (rg_in (n := 9) (rg_mono hp1 (by decide) (by decide))) dX7_heedPair_24 ?_
    refine lv_topi (fun x_28 ex_28 => ?_)
    have hx_28 : rg (0) (511) x_28 := by rw [ex_28]; exact rg_mono (hf_27 _) (by decide) (by decide)
    refine lv_iconst (v := 1) hx hb dX7_heedPair_25 (by decide) ?_
    refine lv_iload_n hx hb dX7_heedPair_26 rfl (lv_at hl 1 rfl) ?_
    refine lv_ishl hx hb dX7_heedPair_27 ?_
    refine lv_topi (fun x_29 ex_29 => ?_)
    have hx_29 : rg (1) (256) x_29 := by rw [ex_29]; exact rg_mono (rg_shl1 8 (rg_mono hp0 (by decide) (by decide)) (by decide)) (by decide) (by decide)
    refine lv_iconst (v := (-1)) hx hb dX7_heedPair_28 (by decide) ?_
    refine lv_ixor hx hb dX7_heedPair_29 ?_
    refine lv_topi (fun x_30 ex_30 => ?_)
    refine lv_iand hx hb dX7_heedPair_30 ?_
    refine lv_topi (fun x_31 ex_31 => ?_)
    have hx_31 : rg (0) (511) x_31 := by rw [ex_31]; exact rg_mono (rg_andl (b := 511) (rg_mono hx_28 (by decide) (by decide))) (by decide) (by decide)
    have kx_31_0 : rg 1 2147483647 x_31 → rg 1 (511) x_28 := fun hq => rg_andP hx_28 (ex_31 ▸ hq)
    refine va_iast hx hb hK hP hD hS 1 1 rfl rfl (rg_in (n := 9) (rg_mono hp1 (by decide) (by decide))) dX7_heedPair_31 (fun H locs hP hD hS => ?_)
    obtain ⟨f_32, ef_32⟩ : ∃ f : Nat → Int32, f = upd f_27 (p1 : Int32).toNatClampNeg x_31 := ⟨_, rfl⟩
    rw [← ef_32] at hP hD
    have hf_32 : rgA (0) (511) f_32 := by rw [ef_32]; exact rgA_upd hf_27 (rg_mono hx_31 (by decide) (by decide))
    clear ef_32
    replace hP : va_P (dC, dI) vwCl [(h0, .inr (7, [.ref h1, .ref h2, .ref h3, .ref h4, .ref h5, .ref h6, .int a0, .int a1, .int a2, .int a3, .int a4, .int a5, .int a6, .int a7])), (h2, .inl (cI, 9, .inl f_32)), (h3, .inl (cI, 9, .inl g2))] H := hP
    replace hD : va_D A [(h0, .inr (7, [.ref h1, .ref h2, .ref h3, .ref h4, .ref h5, .ref h6, .int a0, .int a1, .int a2, .int a3, .int a4, .int a5, .int a6, .int a7])), (h2, .inl (cI, 9, .inl f_32)), (h3, .inl (cI, 9, .inl g2))] := hD
    refine lv_goto (tgt := 86) hx hb dX7_heedPair_32 (by decide) ?_
    have hP9 := hP.sub (ws' := [(h0, .inr (7, [.ref h1, .ref h2, .ref h3, .ref h4, .ref h5, .ref h6, .int a0, .int a1, .int a2, .int a3, .int a4, .int a5, .int a6, .int a7])), (h2, .inl (cI, 9, .inl f_32)), (h3, .inl (cI, 9, .inl g2))]) [0, 1, 2] rfl
    have hD9 := hD.sub (ws' := [(h0, .inr (7, [.ref h1, .ref h2, .ref h3, .ref h4, .ref h5, .ref h6, .int a0, .int a1, .int a2, .int a3, .int a4, .int a5, .int a6, .int a7])), (h2, .inl (cI, 9, .inl f_32)), (h3, .inl (cI, 9, .inl g2))]) [0, 1, 2] (by decide) rfl
    exact W.vret hx hb hr (fun t ht hW => ⟨⟨(), rfl, trivial, ⟨a4, f_32, g2, (rg_mono ha4 (by decide) (by decide)), hf_32, hg2, by rw [ht]; exact hP9, hD9⟩⟩, hS.F ht⟩) hS.2.2 dX7_heedPair_86
def v_s_X7_heedPlace : List Cond := Cond.code yX7_heedPlace cX7_heedPlace 5 none :: ([Cond.fieldLink RX7 34 "MayRings$Ways" "size" "I", Cond.fieldLink RX7 9 "MayRings$Ways" "ground" "[I", Cond.fieldLink RX7 30 "MayRings$Ways" "houses" "I", Cond.fieldLink RX7 44 "MayRings$Ways" "never" "Z"] ++ (wsX70 ++ ([])))
theorem k_s_X7_heedPlace : GoodIn lw_tbl v_s_X7_heedPlace := gd_c (List.mem_of_getElem? (i := 1182) (by decide +kernel)) rfl (goodIn_app (gd_c (List.mem_of_getElem? (i := 454) (by decide +kernel)) rfl (gd_c (List.mem_of_getElem? (i := 440) (by decide +kernel)) rfl (gd_c (List.mem_of_getElem? (i := 452) (by decide +kernel)) rfl (gd_c (List.mem_of_getElem? (i := 461) (by decide +kernel)) rfl (gd_nil))))) (goodIn_app kfX7 (gd_nil)))
set_option maxHeartbeats 2000000 in
set_option maxRecDepth 100000 in
theorem c_s_X7_heedPlace (l : Launch) (dC : Nat → ClassId) (dI : Nat → Nat → Nat) (cB cI cJ cZ cP : ClassId) (h0 : Nat) (h1 : Nat) (g0 : Nat → Int32) (hg0 : rgA (0) (511) g0) (h2 : Nat) (h3 : Nat) (h4 : Nat) (h5 : Nat) (h6 : Nat) (a0 : Int32) (ha0 : rg (0) (511) a0) (a1 : Int32) (ha1 : rg (0) (9) a1) (a2 : Int32) (a3 : Int32) (a4 : Int32) (ha4 : rg (0) (1) a4) (a5 : Int32) (a6 : Int32) (a7 : Int32) (p0 : Int32) (hp0 : rg (0) (8) p0) (p1 : Int32) (hp1 : rg (0) (8) p1) (p2 : Int32) (hp2 : rg (0) (1) p2) (sz : Nat) : Met l yX7_heedPlace v_s_X7_heedPlace ({ frames := 0, cells := 0, slots := 0, locals := 0 }) (va_Pc [.ref h0, .int p0, .int p1, .int p2] (fun U => U.heap.size = sz ∧ va_P (dC, dI) vwCl [(h0, .inr (7, [.ref h1, .ref h2, .ref h3, .ref h4, .ref h5, .ref h6, .int a0, .int a1, .int a2, .int a3, .int a4, .int a5, .int a6, .int a7])), (h1, .inl (cI, 9, .inl g0))] U.heap ∧ va_K (dC, dI) vwCl (ty5 cB cI cJ cZ cP) U ∧ va_D (fun _ => True) [(h0, .inr (7, [.ref h1, .ref h2, .ref h3, .ref h4, .ref h5, .ref h6, .int a0, .int a1, .int a2, .int a3, .int a4, .int a5, .int a6, .int a7])), (h1, .inl (cI, 9, .inl g0))])) (va_Qv (fun _ : Unit => True) (fun _ t => ∃ (z0 : Int32) (z1 : Nat → Int32), rg (0) (1) z0 ∧ rgA (0) (511) z1 ∧ va_P (dC, dI) vwCl [(h0, .inr (7, [.ref h1, .ref h2, .ref h3, .ref h4, .ref h5, .ref h6, .int a0, .int a1, .int a2, .int a3, .int z0, .int a5, .int a6, .int a7])), (h1, .inl (cI, 9, .inl z1))] t.heap ∧ va_D (va_A [(h0, .inr (7, [.ref h1, .ref h2, .ref h3, .ref h4, .ref h5, .ref h6, .int a0, .int a1, .int a2, .int a3, .int a4, .int a5, .int a6, .int a7])), (h1, .inl (cI, 9, .inl g0))] sz) [(h0, .inr (7, [.ref h1, .ref h2, .ref h3, .ref h4, .ref h5, .ref h6, .int a0, .int a1, .int a2, .int a3, .int z0, .int a5, .int a6, .int a7])), (h1, .inl (cI, 9, .inl z1))]) (va_A [(h0, .inr (7, [.ref h1, .ref h2, .ref h3, .ref h4, .ref h5, .ref h6, .int a0, .int a1, .int a2, .int a3, .int a4, .int a5, .int a6, .int a7])), (h1, .inl (cI, 9, .inl g0))] sz)) 0 0 (va_A [(h0, .inr (7, [.ref h1, .ref h2, .ref h3, .ref h4, .ref h5, .ref h6, .int a0, .int a1, .int a2, .int a3, .int a4, .int a5, .int a6, .int a7])), (h1, .inl (cI, 9, .inl g0))] sz) := by
  refine Met.ofW (cc := cX7_heedPlace) (maxL := 5) (ret := none) (by decide) rfl ?_
  intro p e s m args below meth c s₁ B hml hv
  obtain ⟨rfl, hsz, hP, hK, hD0⟩ := hv
  have hx := B.exec
  have hb := B.bytes
  have hr := B.returns
  have hts := atoms_spec (ws := v_s_X7_heedPlace) B.pre
  have hown : s.vm.findClass RX7 = some m.cls := findClass_of_methodNamed B.named
  have hlocks := B.notSynchronized
  have hinX7 : ∀ w ∈ wsX70, w ∈ v_s_X7_heedPlace := fun _ h => List.mem_cons_of_mem _ (List.mem_append_right _ (List.mem_append_left _ h))
  subst hsz
  have hD := hD0.self (sz := s.heap.size)
  generalize hAe : va_A [(h0, .inr (7, [.ref h1, .ref h2, .ref h3, .ref h4, .ref h5, .ref h6, .int a0, .int a1, .int a2, .int a3, .int a4, .int a5, .int a6, .int a7])), (h1, .inl (cI, 9, .inl g0))] s.heap.size = A at hD ⊢
  have hA : ∀ q : Nat, s.heap.size ≤ q → A q := fun q h => by rw [← hAe]; exact Or.inr h
  have hP : va_P (dC, dI) vwCl [(h0, .inr (7, [.ref h1, .ref h2, .ref h3, .ref h4, .ref h5, .ref h6, .int a0, .int a1, .int a2, .int a3, .int a4, .int a5, .int a6, .int a7])), (h1, .inl (cI, 9, .inl g0))] s.heap := hP
  have hl := lv_entry ([.ref h0, .int p0, .int p1, .int p2]) (n := 5) (Nat.le_of_ble_eq_true rfl)
  rw [lg_entry_eq]
  generalize (lg_sl ([.ref h0, .int p0, .int p1, .int p2]) ++ List.replicate (5 - (lg_sl ([.ref h0, .int p0, .int p1, .int p2])).length) Slot.unset).toArray = ls at hl ⊢
  have hl : lv_has ls 5 [(0, .ref h0), (1, .int p0), (2, .int p1), (3, .int p2)] := hl
  refine W_gen (A := A) hP (fun H locs hP hS => ?_)
  refine lv_iload_n hx hb dX7_heedPlace_0 rfl (lv_at hl 3 rfl) ?_
  refine lv_if_eq (tgt := 28) hx hb dX7_heedPlace_1 (by decide) (fun c_1 => ?_) (fun c_1 => ?_)
  · skip
    have h_2 : rg (0) (0) p2 := by have ha := hp2; have hb_ := (rg_k (x := 0) (c := 0) (by decide)); simp only [rg, fa_lt, fa_le, fa_eq, (by decide : (0 : Int32).toInt = 0)] at ha hb_ c_1; simp only [rg]; omega
    refine lv_iconst (v := 0) hx hb dX7_heedPlace_28 (by decide) ?_
    refine lv_istore (lv' := [(4, .int 0), (0, .ref h0), (1, .int p0), (2, .int p1), (3, .int p2)]) hx hb dX7_heedPlace_29 hl (by decide) rfl (fun ls hl => ?_)
    refine W_loopM (σ := Int32 × (Nat → Int32)) (fun u H locs ls => va_P (dC, dI) vwCl [(h0, .inr (7, [.ref h1, .ref h2, .ref h3, .ref h4, .ref h5, .ref h6, .int a0, .int a1, .int a2, .int a3, .int a4, .int a5, .int a6, .int a7])), (h1, .inl (cI, 9, .inl u.2))] H ∧ va_D A [(h0, .inr (7, [.ref h1, .ref h2, .ref h3, .ref h4, .ref h5, .ref h6, .int a0, .int a1, .int a2, .int a3, .int a4, .int a5, .int a6, .int a7])), (h1, .inl (cI, 9, .inl u.2))] ∧ va_S A s.heap H locs ∧ lv_has ls 5 [(4, .int u.1), (0, .ref h0), (1, .int p0), (2, .int p1), (3, .int p2)] ∧ rg (0) (9) u.1 ∧ rgA (0) (511) u.2) (fun u => ((9) - u.1.toInt).toNat) 31 [] ?_ (0, g0) H locs ls ⟨hP, hD, hS, hl, (rg_mono (rg_k (x := 0) (c := 0) (by decide)) (by decide) (by decide)), hg0⟩
    rintro ⟨x_143, f_144⟩ H locs ls ⟨hP, hD, hS, hl, hx_143, hf_144⟩ ih_158
    replace hP : va_P (dC, dI) vwCl [(h0, .inr (7, [.ref h1, .ref h2, .ref h3, .ref h4, .ref h5, .ref h6, .int a0, .int a1, .int a2, .int a3, .int a4, .int a5, .int a6, .int a7])), (h1, .inl (cI, 9, .inl f_144))] H := hP
    replace hD : va_D A [(h0, .inr (7, [.ref h1, .ref h2, .ref h3, .ref h4, .ref h5, .ref h6, .int a0, .int a1, .int a2, .int a3, .int a4, .int a5, .int a6, .int a7])), (h1, .inl (cI, 9, .inl f_144))] := hD
    replace hl : lv_has ls 5 [(4, .int x_143), (0, .ref h0), (1, .int p0), (2, .int p1), (3, .int p2)] := hl
    replace hx_143 : rg (0) (9) x_143 := hx_143
    replace hf_144 : rgA (0) (511) f_144 := hf_144
    refine lv_iload hx hb dX7_heedPlace_31 (lv_at hl 0 rfl) ?_
    refine lv_aload_n hx hb dX7_heedPlace_33 rfl (lv_at hl 1 rfl) ?_
    refine va_get (D := (dC, dI)) (ci := 7) (v := .int a1) (C := RX7) (T := TX7) (N := 14) hx hb hts hinX7 hown hK hP 0 rfl rfl 7 (by decide) (hts (.fieldLink RX7 34 "MayRings$Ways" "size" "I") (List.mem_of_getElem? (i := 1) rfl)) (fun _ h9 => h9) rfl dX7_heedPlace_34 ?_
    refine lv_icmp_ge (tgt := 76) hx hb dX7_heedPlace_37 (by decide) (fun c_159 => ?_) (fun c_159 => ?_)
    · skip
      have hP9 := hP.sub (ws' := [(h0, .inr (7, [.ref h1, .ref h2, .ref h3, .ref h4, .ref h5, .ref h6, .int a0, .int a1, .int a2, .int a3, .int a4, .int a5, .int a6, .int a7])), (h1, .inl (cI, 9, .inl f_144))]) [0, 1] rfl
      have hD9 := hD.sub (ws' := [(h0, .inr (7, [.ref h1, .ref h2, .ref h3, .ref h4, .ref h5, .ref h6, .int a0, .int a1, .int a2, .int a3, .int a4, .int a5, .int a6, .int a7])), (h1, .inl (cI, 9, .inl f_144))]) [0, 1] (by decide) rfl
      exact W.vret hx hb hr (fun t ht hW => ⟨⟨(), rfl, trivial, ⟨a4, f_144, (rg_mono ha4 (by decide) (by decide)), hf_144, by rw [ht]; exact hP9, hD9⟩⟩, hS.F ht⟩) hS.2.2 dX7_heedPlace_76
    · skip
      have h_160 : rg (0) (8) x_143 := by have ha := hx_143; have hb_ := ha1; simp only [rg, fa_lt, fa_le, fa_eq] at ha hb_ c_159; simp only [rg]; omega
      have h_161 : rg (1) (9) a1 := by have ha := hx_143; have hb_ := ha1; simp only [rg, fa_lt, fa_le, fa_eq] at ha hb_ c_159; simp only [rg]; omega
      refine lv_iload hx hb dX7_heedPlace_40 (lv_at hl 0 rfl) ?_
      refine lv_iload_n hx hb dX7_heedPlace_42 rfl (lv_at hl 3 rfl) ?_
      refine lv_icmp_ne (tgt := 50) hx hb dX7_heedPlace_43 (by decide) (fun c_162 => ?_) (fun c_162 => ?_)
      · skip
        refine lv_iconst (v := 0) hx hb dX7_heedPlace_50 (by decide) ?_
        refine lv_iload_n hx hb dX7_heedPlace_51 rfl (lv_at hl 4 rfl) ?_
        refine lv_icmp_eq (tgt := 70) hx hb dX7_heedPlace_52 (by decide) (fun c_163 => ?_) (fun c_163 => ?_)
        · skip
          obtain ⟨x_164, ex_164⟩ : ∃ y : Int32, y = x_143 + Int32.ofInt (1) := ⟨_, rfl⟩
          have hx_164 : rg (1) (9) x_164 := by rw [ex_164]; exact rg_mono (rg_add h_160 (rg_k (x := Int32.ofInt (1)) (c := 1) (by decide)) (by decide) (by decide)) (by decide) (by decide)
          have qx_164 : x_164.toInt = x_143.toInt + (1) := by rw [ex_164]; exact rg_addE h_160 (rg_k (x := Int32.ofInt (1)) (c := 1) (by decide)) (by decide) (by decide) (by decide)
          refine lv_iinc (v := x_164) (lv' := [(4, .int x_164), (0, .ref h0), (1, .int p0), (2, .int p1), (3, .int p2)]) hx hb dX7_heedPlace_70 hl (k := 0) rfl (ex_164.symm) (by decide) rfl (fun ls hl => ?_)
          clear ex_164
          refine lv_goto (tgt := 31) hx hb dX7_heedPlace_73 (by decide) ?_
          exact ih_158 (x_164, f_144) H locs ls ⟨hP.sub (ws' := [(h0, .inr (7, [.ref h1, .ref h2, .ref h3, .ref h4, .ref h5, .ref h6, .int a0, .int a1, .int a2, .int a3, .int a4, .int a5, .int a6, .int a7])), (h1, .inl (cI, 9, .inl f_144))]) [0, 1] rfl, hD.sub (ws' := [(h0, .inr (7, [.ref h1, .ref h2, .ref h3, .ref h4, .ref h5, .ref h6, .int a0, .int a1, .int a2, .int a3, .int a4, .int a5, .int a6, .int a7])), (h1, .inl (cI, 9, .inl f_144))]) [0, 1] (by decide) rfl, hS, lv_sub hl [0, 1, 2, 3, 4] rfl, (rg_mono hx_164 (by decide) (by decide)), hf_144⟩ (by show ((9) - x_164.toInt).toNat < ((9) - x_143.toInt).toNat; have ha := h_160; simp only [rg] at ha; omega)
        · skip
          exfalso; have ha := (rg_k (x := 0) (c := 0) (by decide)); have hb_ := h_2; simp only [rg, fa_lt, fa_le, fa_eq, (by decide : (0 : Int32).toInt = 0)] at ha hb_ c_163; omega
      · skip
        refine lv_iconst (v := 1) hx hb dX7_heedPlace_46 (by decide) ?_
        refine lv_goto (tgt := 51) hx hb dX7_heedPlace_47 (by decide) ?_
        refine lv_iload_n hx hb dX7_heedPlace_51 rfl (lv_at hl 4 rfl) ?_
        refine lv_icmp_eq (tgt := 70) hx hb dX7_heedPlace_52 (by decide) (fun c_165 => ?_) (fun c_165 => ?_)
        · skip
          exfalso; have ha := (rg_k (x := 1) (c := 1) (by decide)); have hb_ := h_2; simp only [rg, fa_lt, fa_le, fa_eq, (by decide : (1 : Int32).toInt = 1)] at ha hb_ c_165; omega
        · skip
          refine lv_aload_n hx hb dX7_heedPlace_55 rfl (lv_at hl 1 rfl) ?_
          refine va_get (D := (dC, dI)) (ci := 7) (v := .ref h1) (C := RX7) (T := TX7) (N := 14) hx hb hts hinX7 hown hK hP 0 rfl rfl 0 (by decide) (hts (.fieldLink RX7 9 "MayRings$Ways" "ground" "[I") (List.mem_of_getElem? (i := 2) rfl)) (fun _ h9 => h9) rfl dX7_heedPlace_56 ?_
          refine lv_iload hx hb dX7_heedPlace_59 (lv_at hl 0 rfl) ?_
          refine lv_dup2_11 hx hb dX7_heedPlace_61 rfl rfl ?_
          refine va_iald hx hb hK hP 1 1 rfl rfl (rg_in (n := 9) (rg_mono h_160 (by decide) (by decide))) dX7_heedPlace_62 ?_
          refine lv_topi (fun x_166 ex_166 => ?_)
          have hx_166 : rg (0) (511) x_166 := by rw [ex_166]; exact rg_mono (hf_144 _) (by decide) (by decide)
          refine lv_iconst (v := 1) hx hb dX7_heedPlace_63 (by decide) ?_
          refine lv_iload_n hx hb dX7_heedPlace_64 rfl (lv_at hl 2 rfl) ?_
          refine lv_ishl hx hb dX7_heedPlace_65 ?_
          refine lv_topi (fun x_167 ex_167 => ?_)
          have hx_167 : rg (1) (256) x_167 := by rw [ex_167]; exact rg_mono (rg_shl1 8 (rg_mono hp0 (by decide) (by decide)) (by decide)) (by decide) (by decide)
          refine lv_iconst (v := (-1)) hx hb dX7_heedPlace_66 (by decide) ?_
          refine lv_ixor hx hb dX7_heedPlace_67 ?_
          refine lv_topi (fun x_168 ex_168 => ?_)
          refine lv_iand hx hb dX7_heedPlace_68 ?_
          refine lv_topi (fun x_169 ex_169 => ?_)
          have hx_169 : rg (0) (511) x_169 := by rw [ex_169]; exact rg_mono (rg_andl (b := 511) (rg_mono hx_166 (by decide) (by decide))) (by decide) (by decide)
          have kx_169_0 : rg 1 2147483647 x_169 → rg 1 (511) x_166 := fun hq => rg_andP hx_166 (ex_169 ▸ hq)
          refine va_iast hx hb hK hP hD hS 1 1 rfl rfl (rg_in (n := 9) (rg_mono h_160 (by decide) (by decide))) dX7_heedPlace_69 (fun H locs hP hD hS => ?_)
          obtain ⟨f_170, ef_170⟩ : ∃ f : Nat → Int32, f = upd f_144 (x_143 : Int32).toNatClampNeg x_169 := ⟨_, rfl⟩
          rw [← ef_170] at hP hD
          have hf_170 : rgA (0) (511) f_170 := by rw [ef_170]; exact rgA_upd hf_144 (rg_mono hx_169 (by decide) (by decide))
          clear ef_170
          replace hP : va_P (dC, dI) vwCl [(h0, .inr (7, [.ref h1, .ref h2, .ref h3, .ref h4, .ref h5, .ref h6, .int a0, .int a1, .int a2, .int a3, .int a4, .int a5, .int a6, .int a7])), (h1, .inl (cI, 9, .inl f_170))] H := hP
          replace hD : va_D A [(h0, .inr (7, [.ref h1, .ref h2, .ref h3, .ref h4, .ref h5, .ref h6, .int a0, .int a1, .int a2, .int a3, .int a4, .int a5, .int a6, .int a7])), (h1, .inl (cI, 9, .inl f_170))] := hD
          obtain ⟨x_171, ex_171⟩ : ∃ y : Int32, y = x_143 + Int32.ofInt (1) := ⟨_, rfl⟩
          have hx_171 : rg (1) (9) x_171 := by rw [ex_171]; exact rg_mono (rg_add h_160 (rg_k (x := Int32.ofInt (1)) (c := 1) (by decide)) (by decide) (by decide)) (by decide) (by decide)
          have qx_171 : x_171.toInt = x_143.toInt + (1) := by rw [ex_171]; exact rg_addE h_160 (rg_k (x := Int32.ofInt (1)) (c := 1) (by decide)) (by decide) (by decide) (by decide)
          refine lv_iinc (v := x_171) (lv' := [(4, .int x_171), (0, .ref h0), (1, .int p0), (2, .int p1), (3, .int p2)]) hx hb dX7_heedPlace_70 hl (k := 0) rfl (ex_171.symm) (by decide) rfl (fun ls hl => ?_)
          clear ex_171
          refine lv_goto (tgt := 31) hx hb dX7_heedPlace_73 (by decide) ?_
          exact ih_158 (x_171, f_170) H locs ls ⟨hP.sub (ws' := [(h0, .inr (7, [.ref h1, .ref h2, .ref h3, .ref h4, .ref h5, .ref h6, .int a0, .int a1, .int a2, .int a3, .int a4, .int a5, .int a6, .int a7])), (h1, .inl (cI, 9, .inl f_170))]) [0, 1] rfl, hD.sub (ws' := [(h0, .inr (7, [.ref h1, .ref h2, .ref h3, .ref h4, .ref h5, .ref h6, .int a0, .int a1, .int a2, .int a3, .int a4, .int a5, .int a6, .int a7])), (h1, .inl (cI, 9, .inl f_170))]) [0, 1] (by decide) rfl, hS, lv_sub hl [0, 1, 2, 3, 4] rfl, (rg_mono hx_171 (by decide) (by decide)), hf_170⟩ (by show ((9) - x_171.toInt).toNat < ((9) - x_143.toInt).toNat; have ha := h_160; simp only [rg] at ha; omega)
  · skip
    have h_172 : rg (1) (1) p2 := by have ha := hp2; have hb_ := (rg_k (x := 0) (c := 0) (by decide)); simp only [rg, fa_lt, fa_le, fa_eq, (by decide : (0 : Int32).toInt = 0)] at ha hb_ c_1; simp only [rg]; omega
    refine lv_aload_n hx hb dX7_heedPlace_4 rfl (lv_at hl 0 rfl) ?_
    refine va_get (D := (dC, dI)) (ci := 7) (v := .int a0) (C := RX7) (T := TX7) (N := 14) hx hb hts hinX7 hown hK hP 0 rfl rfl 6 (by decide) (hts (.fieldLink RX7 30 "MayRings$Ways" "houses" "I") (List.mem_of_getElem? (i := 3) rfl)) (fun _ h9 => h9) rfl dX7_heedPlace_5 ?_
    refine lv_iload_n hx hb dX7_heedPlace_8 rfl (lv_at hl 1 rfl) ?_
    refine lv_ishr hx hb dX7_heedPlace_9 ?_
    refine lv_topi (fun x_173 ex_173 => ?_)
    have hx_173 : rg (0) (511) x_173 := by rw [ex_173]; exact rg_mono (rg_shr (b := 511) (rg_mono ha0 (by decide) (by decide))) (by decide) (by decide)
    have kx_173_0 : rg 1 2147483647 x_173 → rg 1 (511) a0 := fun hq => rg_shrP ha0 (ex_173 ▸ hq)
    refine lv_iconst (v := 1) hx hb dX7_heedPlace_10 (by decide) ?_
    refine lv_iand hx hb dX7_heedPlace_11 ?_
    refine lv_topi (fun x_174 ex_174 => ?_)
    have hx_174 : rg (0) (1) x_174 := by rw [ex_174]; exact rg_mono (rg_andr (b := 1) (rg_mono (rg_k (x := 1) (c := 1) (by decide)) (by decide) (by decide))) (by decide) (by decide)
    have kx_174_0 : rg 1 2147483647 x_174 → rg 1 (511) x_173 := fun hq => rg_andP hx_173 (ex_174 ▸ hq)
    refine lv_if_eq (tgt := 23) hx hb dX7_heedPlace_12 (by decide) (fun c_175 => ?_) (fun c_175 => ?_)
    · skip
      have h_176 : rg (0) (0) x_174 := by have ha := hx_174; have hb_ := (rg_k (x := 0) (c := 0) (by decide)); simp only [rg, fa_lt, fa_le, fa_eq, (by decide : (0 : Int32).toInt = 0)] at ha hb_ c_175; simp only [rg]; omega
      refine lv_aload_n hx hb dX7_heedPlace_23 rfl (lv_at hl 0 rfl) ?_
      refine lv_iconst (v := 1) hx hb dX7_heedPlace_24 (by decide) ?_
      refine va_put (D := (dC, dI)) (ci := 7) (v := .int 1) (ty := .boolean) (C := RX7) (T := TX7) (N := 14) hx hb hts hinX7 tyX7 tyX7_ok nmX7 hown hK hP hD hS 0 rfl rfl 10 (by decide) (hts (.fieldLink RX7 44 "MayRings$Ways" "never" "Z") (List.mem_of_getElem? (i := 4) rfl)) (fun _ h9 => h9) rfl (by decide +kernel) (rfl) (rfl) (Nat.le_of_ble_eq_true rfl) dX7_heedPlace_25 (fun H locs hP hD hS => ?_)
      replace hP : va_P (dC, dI) vwCl [(h0, .inr (7, [.ref h1, .ref h2, .ref h3, .ref h4, .ref h5, .ref h6, .int a0, .int a1, .int a2, .int a3, .int 1, .int a5, .int a6, .int a7])), (h1, .inl (cI, 9, .inl g0))] H := hP
      replace hD : va_D A [(h0, .inr (7, [.ref h1, .ref h2, .ref h3, .ref h4, .ref h5, .ref h6, .int a0, .int a1, .int a2, .int a3, .int 1, .int a5, .int a6, .int a7])), (h1, .inl (cI, 9, .inl g0))] := hD
      refine lv_iconst (v := 0) hx hb dX7_heedPlace_28 (by decide) ?_
      refine lv_istore (lv' := [(4, .int 0), (0, .ref h0), (1, .int p0), (2, .int p1), (3, .int p2)]) hx hb dX7_heedPlace_29 hl (by decide) rfl (fun ls hl => ?_)
      refine W_loopM (σ := (Nat → Int32) × Int32) (fun u H locs ls => va_P (dC, dI) vwCl [(h0, .inr (7, [.ref h1, .ref h2, .ref h3, .ref h4, .ref h5, .ref h6, .int a0, .int a1, .int a2, .int a3, .int 1, .int a5, .int a6, .int a7])), (h1, .inl (cI, 9, .inl u.1))] H ∧ va_D A [(h0, .inr (7, [.ref h1, .ref h2, .ref h3, .ref h4, .ref h5, .ref h6, .int a0, .int a1, .int a2, .int a3, .int 1, .int a5, .int a6, .int a7])), (h1, .inl (cI, 9, .inl u.1))] ∧ va_S A s.heap H locs ∧ lv_has ls 5 [(4, .int u.2), (0, .ref h0), (1, .int p0), (2, .int p1), (3, .int p2)] ∧ rgA (0) (511) u.1 ∧ rg (0) (9) u.2) (fun u => ((9) - u.2.toInt).toNat) 31 [] ?_ (g0, 0) H locs ls ⟨hP, hD, hS, hl, hg0, (rg_mono (rg_k (x := 0) (c := 0) (by decide)) (by decide) (by decide))⟩
      rintro ⟨f_317, x_318⟩ H locs ls ⟨hP, hD, hS, hl, hf_317, hx_318⟩ ih_332
      replace hP : va_P (dC, dI) vwCl [(h0, .inr (7, [.ref h1, .ref h2, .ref h3, .ref h4, .ref h5, .ref h6, .int a0, .int a1, .int a2, .int a3, .int 1, .int a5, .int a6, .int a7])), (h1, .inl (cI, 9, .inl f_317))] H := hP
      replace hD : va_D A [(h0, .inr (7, [.ref h1, .ref h2, .ref h3, .ref h4, .ref h5, .ref h6, .int a0, .int a1, .int a2, .int a3, .int 1, .int a5, .int a6, .int a7])), (h1, .inl (cI, 9, .inl f_317))] := hD
      replace hl : lv_has ls 5 [(4, .int x_318), (0, .ref h0), (1, .int p0), (2, .int p1), (3, .int p2)] := hl
      replace hf_317 : rgA (0) (511) f_317 := hf_317
      replace hx_318 : rg (0) (9) x_318 := hx_318
      refine lv_iload hx hb dX7_heedPlace_31 (lv_at hl 0 rfl) ?_
      refine lv_aload_n hx hb dX7_heedPlace_33 rfl (lv_at hl 1 rfl) ?_
      refine va_get (D := (dC, dI)) (ci := 7) (v := .int a1) (C := RX7) (T := TX7) (N := 14) hx hb hts hinX7 hown hK hP 0 rfl rfl 7 (by decide) (hts (.fieldLink RX7 34 "MayRings$Ways" "size" "I") (List.mem_of_getElem? (i := 1) rfl)) (fun _ h9 => h9) rfl dX7_heedPlace_34 ?_
      refine lv_icmp_ge (tgt := 76) hx hb dX7_heedPlace_37 (by decide) (fun c_333 => ?_) (fun c_333 => ?_)
      · skip
        have hP9 := hP.sub (ws' := [(h0, .inr (7, [.ref h1, .ref h2, .ref h3, .ref h4, .ref h5, .ref h6, .int a0, .int a1, .int a2, .int a3, .int 1, .int a5, .int a6, .int a7])), (h1, .inl (cI, 9, .inl f_317))]) [0, 1] rfl
        have hD9 := hD.sub (ws' := [(h0, .inr (7, [.ref h1, .ref h2, .ref h3, .ref h4, .ref h5, .ref h6, .int a0, .int a1, .int a2, .int a3, .int 1, .int a5, .int a6, .int a7])), (h1, .inl (cI, 9, .inl f_317))]) [0, 1] (by decide) rfl
        exact W.vret hx hb hr (fun t ht hW => ⟨⟨(), rfl, trivial, ⟨1, f_317, (rg_mono (rg_k (x := 1) (c := 1) (by decide)) (by decide) (by decide)), hf_317, by rw [ht]; exact hP9, hD9⟩⟩, hS.F ht⟩) hS.2.2 dX7_heedPlace_76
      · skip
        have h_334 : rg (0) (8) x_318 := by have ha := hx_318; have hb_ := ha1; simp only [rg, fa_lt, fa_le, fa_eq] at ha hb_ c_333; simp only [rg]; omega
        have h_335 : rg (1) (9) a1 := by have ha := hx_318; have hb_ := ha1; simp only [rg, fa_lt, fa_le, fa_eq] at ha hb_ c_333; simp only [rg]; omega
        refine lv_iload hx hb dX7_heedPlace_40 (lv_at hl 0 rfl) ?_
        refine lv_iload_n hx hb dX7_heedPlace_42 rfl (lv_at hl 3 rfl) ?_
        refine lv_icmp_ne (tgt := 50) hx hb dX7_heedPlace_43 (by decide) (fun c_336 => ?_) (fun c_336 => ?_)
        · skip
          refine lv_iconst (v := 0) hx hb dX7_heedPlace_50 (by decide) ?_
          refine lv_iload_n hx hb dX7_heedPlace_51 rfl (lv_at hl 4 rfl) ?_
          refine lv_icmp_eq (tgt := 70) hx hb dX7_heedPlace_52 (by decide) (fun c_337 => ?_) (fun c_337 => ?_)
          · skip
            exfalso; have ha := (rg_k (x := 0) (c := 0) (by decide)); have hb_ := h_172; simp only [rg, fa_lt, fa_le, fa_eq, (by decide : (0 : Int32).toInt = 0)] at ha hb_ c_337; omega
          · skip
            refine lv_aload_n hx hb dX7_heedPlace_55 rfl (lv_at hl 1 rfl) ?_
            refine va_get (D := (dC, dI)) (ci := 7) (v := .ref h1) (C := RX7) (T := TX7) (N := 14) hx hb hts hinX7 hown hK hP 0 rfl rfl 0 (by decide) (hts (.fieldLink RX7 9 "MayRings$Ways" "ground" "[I") (List.mem_of_getElem? (i := 2) rfl)) (fun _ h9 => h9) rfl dX7_heedPlace_56 ?_
            refine lv_iload hx hb dX7_heedPlace_59 (lv_at hl 0 rfl) ?_
            refine lv_dup2_11 hx hb dX7_heedPlace_61 rfl rfl ?_
            refine va_iald hx hb hK hP 1 1 rfl rfl (rg_in (n := 9) (rg_mono h_334 (by decide) (by decide))) dX7_heedPlace_62 ?_
            refine lv_topi (fun x_338 ex_338 => ?_)
            have hx_338 : rg (0) (511) x_338 := by rw [ex_338]; exact rg_mono (hf_317 _) (by decide) (by decide)
            refine lv_iconst (v := 1) hx hb dX7_heedPlace_63 (by decide) ?_
            refine lv_iload_n hx hb dX7_heedPlace_64 rfl (lv_at hl 2 rfl) ?_
            refine lv_ishl hx hb dX7_heedPlace_65 ?_
            refine lv_topi (fun x_339 ex_339 => ?_)
            have hx_339 : rg (1) (256) x_339 := by rw [ex_339]; exact rg_mono (rg_shl1 8 (rg_mono hp0 (by decide) (by decide)) (by decide)) (by decide) (by decide)
            refine lv_iconst (v := (-1)) hx hb dX7_heedPlace_66 (by decide) ?_
            refine lv_ixor hx hb dX7_heedPlace_67 ?_
            refine lv_topi (fun x_340 ex_340 => ?_)
            refine lv_iand hx hb dX7_heedPlace_68 ?_
            refine lv_topi (fun x_341 ex_341 => ?_)
            have hx_341 : rg (0) (511) x_341 := by rw [ex_341]; exact rg_mono (rg_andl (b := 511) (rg_mono hx_338 (by decide) (by decide))) (by decide) (by decide)
            have kx_341_0 : rg 1 2147483647 x_341 → rg 1 (511) x_338 := fun hq => rg_andP hx_338 (ex_341 ▸ hq)
            refine va_iast hx hb hK hP hD hS 1 1 rfl rfl (rg_in (n := 9) (rg_mono h_334 (by decide) (by decide))) dX7_heedPlace_69 (fun H locs hP hD hS => ?_)
            obtain ⟨f_342, ef_342⟩ : ∃ f : Nat → Int32, f = upd f_317 (x_318 : Int32).toNatClampNeg x_341 := ⟨_, rfl⟩
            rw [← ef_342] at hP hD
            have hf_342 : rgA (0) (511) f_342 := by rw [ef_342]; exact rgA_upd hf_317 (rg_mono hx_341 (by decide) (by decide))
            clear ef_342
            replace hP : va_P (dC, dI) vwCl [(h0, .inr (7, [.ref h1, .ref h2, .ref h3, .ref h4, .ref h5, .ref h6, .int a0, .int a1, .int a2, .int a3, .int 1, .int a5, .int a6, .int a7])), (h1, .inl (cI, 9, .inl f_342))] H := hP
            replace hD : va_D A [(h0, .inr (7, [.ref h1, .ref h2, .ref h3, .ref h4, .ref h5, .ref h6, .int a0, .int a1, .int a2, .int a3, .int 1, .int a5, .int a6, .int a7])), (h1, .inl (cI, 9, .inl f_342))] := hD
            obtain ⟨x_343, ex_343⟩ : ∃ y : Int32, y = x_318 + Int32.ofInt (1) := ⟨_, rfl⟩
            have hx_343 : rg (1) (9) x_343 := by rw [ex_343]; exact rg_mono (rg_add h_334 (rg_k (x := Int32.ofInt (1)) (c := 1) (by decide)) (by decide) (by decide)) (by decide) (by decide)
            have qx_343 : x_343.toInt = x_318.toInt + (1) := by rw [ex_343]; exact rg_addE h_334 (rg_k (x := Int32.ofInt (1)) (c := 1) (by decide)) (by decide) (by decide) (by decide)
            refine lv_iinc (v := x_343) (lv' := [(4, .int x_343), (0, .ref h0), (1, .int p0), (2, .int p1), (3, .int p2)]) hx hb dX7_heedPlace_70 hl (k := 0) rfl (ex_343.symm) (by decide) rfl (fun ls hl => ?_)
            clear ex_343
            refine lv_goto (tgt := 31) hx hb dX7_heedPlace_73 (by decide) ?_
            exact ih_332 (f_342, x_343) H locs ls ⟨hP.sub (ws' := [(h0, .inr (7, [.ref h1, .ref h2, .ref h3, .ref h4, .ref h5, .ref h6, .int a0, .int a1, .int a2, .int a3, .int 1, .int a5, .int a6, .int a7])), (h1, .inl (cI, 9, .inl f_342))]) [0, 1] rfl, hD.sub (ws' := [(h0, .inr (7, [.ref h1, .ref h2, .ref h3, .ref h4, .ref h5, .ref h6, .int a0, .int a1, .int a2, .int a3, .int 1, .int a5, .int a6, .int a7])), (h1, .inl (cI, 9, .inl f_342))]) [0, 1] (by decide) rfl, hS, lv_sub hl [0, 1, 2, 3, 4] rfl, hf_342, (rg_mono hx_343 (by decide) (by decide))⟩ (by show ((9) - x_343.toInt).toNat < ((9) - x_318.toInt).toNat; have ha := h_334; simp only [rg] at ha; omega)
        · skip
          refine lv_iconst (v := 1) hx hb dX7_heedPlace_46 (by decide) ?_
          refine lv_goto (tgt := 51) hx hb dX7_heedPlace_47 (by decide) ?_
          refine lv_iload_n hx hb dX7_heedPlace_51 rfl (lv_at hl 4 rfl) ?_
          refine lv_icmp_eq (tgt := 70) hx hb dX7_heedPlace_52 (by decide) (fun c_344 => ?_) (fun c_344 => ?_)
          · skip
            obtain ⟨x_345, ex_345⟩ : ∃ y : Int32, y = x_318 + Int32.ofInt (1) := ⟨_, rfl⟩
            have hx_345 : rg (1) (9) x_345 := by rw [ex_345]; exact rg_mono (rg_add h_334 (rg_k (x := Int32.ofInt (1)) (c := 1) (by decide)) (by decide) (by decide)) (by decide) (by decide)
            have qx_345 : x_345.toInt = x_318.toInt + (1) := by rw [ex_345]; exact rg_addE h_334 (rg_k (x := Int32.ofInt (1)) (c := 1) (by decide)) (by decide) (by decide) (by decide)
            refine lv_iinc (v := x_345) (lv' := [(4, .int x_345), (0, .ref h0), (1, .int p0), (2, .int p1), (3, .int p2)]) hx hb dX7_heedPlace_70 hl (k := 0) rfl (ex_345.symm) (by decide) rfl (fun ls hl => ?_)
            clear ex_345
            refine lv_goto (tgt := 31) hx hb dX7_heedPlace_73 (by decide) ?_
            exact ih_332 (f_317, x_345) H locs ls ⟨hP.sub (ws' := [(h0, .inr (7, [.ref h1, .ref h2, .ref h3, .ref h4, .ref h5, .ref h6, .int a0, .int a1, .int a2, .int a3, .int 1, .int a5, .int a6, .int a7])), (h1, .inl (cI, 9, .inl f_317))]) [0, 1] rfl, hD.sub (ws' := [(h0, .inr (7, [.ref h1, .ref h2, .ref h3, .ref h4, .ref h5, .ref h6, .int a0, .int a1, .int a2, .int a3, .int 1, .int a5, .int a6, .int a7])), (h1, .inl (cI, 9, .inl f_317))]) [0, 1] (by decide) rfl, hS, lv_sub hl [0, 1, 2, 3, 4] rfl, hf_317, (rg_mono hx_345 (by decide) (by decide))⟩ (by show ((9) - x_345.toInt).toNat < ((9) - x_318.toInt).toNat; have ha := h_334; simp only [rg] at ha; omega)
          · skip
            exfalso; have ha := (rg_k (x := 1) (c := 1) (by decide)); have hb_ := h_172; simp only [rg, fa_lt, fa_le, fa_eq, (by decide : (1 : Int32).toInt = 1)] at ha hb_ c_344; omega
    · skip
      have h_346 : rg (1) (1) x_174 := by have ha := hx_174; have hb_ := (rg_k (x := 0) (c := 0) (by decide)); simp only [rg, fa_lt, fa_le, fa_eq, (by decide : (0 : Int32).toInt = 0)] at ha hb_ c_175; simp only [rg]; omega
      have h_347 : rg (1) (511) x_173 := rg_meet hx_173 (kx_174_0 (rg_mono h_346 (by decide) (by decide))) (by decide) (by decide)
      have h_348 : rg (1) (511) a0 := rg_meet ha0 (kx_173_0 (rg_mono h_347 (by decide) (by decide))) (by decide) (by decide)
      refine lv_iload_n hx hb dX7_heedPlace_15 rfl (lv_at hl 2 rfl) ?_
      refine lv_aload_n hx hb dX7_heedPlace_16 rfl (lv_at hl 0 rfl) ?_
      refine va_get (D := (dC, dI)) (ci := 7) (v := .int a1) (C := RX7) (T := TX7) (N := 14) hx hb hts hinX7 hown hK hP 0 rfl rfl 7 (by decide) (hts (.fieldLink RX7 34 "MayRings$Ways" "size" "I") (List.mem_of_getElem? (i := 1) rfl)) (fun _ h9 => h9) rfl dX7_heedPlace_17 ?_
      refine lv_icmp_lt (tgt := 28) hx hb dX7_heedPlace_20 (by decide) (fun c_349 => ?_) (fun c_349 => ?_)
      · skip
        have h_350 : rg (1) (9) a1 := by have ha := hp1; have hb_ := ha1; simp only [rg, fa_lt, fa_le, fa_eq] at ha hb_ c_349; simp only [rg]; omega
        refine lv_iconst (v := 0) hx hb dX7_heedPlace_28 (by decide) ?_
        refine lv_istore (lv' := [(4, .int 0), (0, .ref h0), (1, .int p0), (2, .int p1), (3, .int p2)]) hx hb dX7_heedPlace_29 hl (by decide) rfl (fun ls hl => ?_)
        refine W_loopM (σ := (Nat → Int32) × Int32) (fun u H locs ls => va_P (dC, dI) vwCl [(h0, .inr (7, [.ref h1, .ref h2, .ref h3, .ref h4, .ref h5, .ref h6, .int a0, .int a1, .int a2, .int a3, .int a4, .int a5, .int a6, .int a7])), (h1, .inl (cI, 9, .inl u.1))] H ∧ va_D A [(h0, .inr (7, [.ref h1, .ref h2, .ref h3, .ref h4, .ref h5, .ref h6, .int a0, .int a1, .int a2, .int a3, .int a4, .int a5, .int a6, .int a7])), (h1, .inl (cI, 9, .inl u.1))] ∧ va_S A s.heap H locs ∧ lv_has ls 5 [(4, .int u.2), (0, .ref h0), (1, .int p0), (2, .int p1), (3, .int p2)] ∧ rgA (0) (511) u.1 ∧ rg (0) (9) u.2) (fun u => ((9) - u.2.toInt).toNat) 31 [] ?_ (g0, 0) H locs ls ⟨hP, hD, hS, hl, hg0, (rg_mono (rg_k (x := 0) (c := 0) (by decide)) (by decide) (by decide))⟩
        rintro ⟨f_489, x_490⟩ H locs ls ⟨hP, hD, hS, hl, hf_489, hx_490⟩ ih_504
        replace hP : va_P (dC, dI) vwCl [(h0, .inr (7, [.ref h1, .ref h2, .ref h3, .ref h4, .ref h5, .ref h6, .int a0, .int a1, .int a2, .int a3, .int a4, .int a5, .int a6, .int a7])), (h1, .inl (cI, 9, .inl f_489))] H := hP
        replace hD : va_D A [(h0, .inr (7, [.ref h1, .ref h2, .ref h3, .ref h4, .ref h5, .ref h6, .int a0, .int a1, .int a2, .int a3, .int a4, .int a5, .int a6, .int a7])), (h1, .inl (cI, 9, .inl f_489))] := hD
        replace hl : lv_has ls 5 [(4, .int x_490), (0, .ref h0), (1, .int p0), (2, .int p1), (3, .int p2)] := hl
        replace hf_489 : rgA (0) (511) f_489 := hf_489
        replace hx_490 : rg (0) (9) x_490 := hx_490
        refine lv_iload hx hb dX7_heedPlace_31 (lv_at hl 0 rfl) ?_
        refine lv_aload_n hx hb dX7_heedPlace_33 rfl (lv_at hl 1 rfl) ?_
        refine va_get (D := (dC, dI)) (ci := 7) (v := .int a1) (C := RX7) (T := TX7) (N := 14) hx hb hts hinX7 hown hK hP 0 rfl rfl 7 (by decide) (hts (.fieldLink RX7 34 "MayRings$Ways" "size" "I") (List.mem_of_getElem? (i := 1) rfl)) (fun _ h9 => h9) rfl dX7_heedPlace_34 ?_
        refine lv_icmp_ge (tgt := 76) hx hb dX7_heedPlace_37 (by decide) (fun c_505 => ?_) (fun c_505 => ?_)
        · skip
          have h_506 : rg (1) (9) x_490 := by have ha := hx_490; have hb_ := h_350; simp only [rg, fa_lt, fa_le, fa_eq] at ha hb_ c_505; simp only [rg]; omega
          have hP9 := hP.sub (ws' := [(h0, .inr (7, [.ref h1, .ref h2, .ref h3, .ref h4, .ref h5, .ref h6, .int a0, .int a1, .int a2, .int a3, .int a4, .int a5, .int a6, .int a7])), (h1, .inl (cI, 9, .inl f_489))]) [0, 1] rfl
          have hD9 := hD.sub (ws' := [(h0, .inr (7, [.ref h1, .ref h2, .ref h3, .ref h4, .ref h5, .ref h6, .int a0, .int a1, .int a2, .int a3, .int a4, .int a5, .int a6, .int a7])), (h1, .inl (cI, 9, .inl f_489))]) [0, 1] (by decide) rfl
          exact W.vret hx hb hr (fun t ht hW => ⟨⟨(), rfl, trivial, ⟨a4, f_489, (rg_mono ha4 (by decide) (by decide)), hf_489, by rw [ht]; exact hP9, hD9⟩⟩, hS.F ht⟩) hS.2.2 dX7_heedPlace_76
        · skip
          have h_507 : rg (0) (8) x_490 := by have ha := hx_490; have hb_ := h_350; simp only [rg, fa_lt, fa_le, fa_eq] at ha hb_ c_505; simp only [rg]; omega
          refine lv_iload hx hb dX7_heedPlace_40 (lv_at hl 0 rfl) ?_
          refine lv_iload_n hx hb dX7_heedPlace_42 rfl (lv_at hl 3 rfl) ?_
          refine lv_icmp_ne (tgt := 50) hx hb dX7_heedPlace_43 (by decide) (fun c_508 => ?_) (fun c_508 => ?_)
          · skip
            refine lv_iconst (v := 0) hx hb dX7_heedPlace_50 (by decide) ?_
            refine lv_iload_n hx hb dX7_heedPlace_51 rfl (lv_at hl 4 rfl) ?_
            refine lv_icmp_eq (tgt := 70) hx hb dX7_heedPlace_52 (by decide) (fun c_509 => ?_) (fun c_509 => ?_)
            · skip
              exfalso; have ha := (rg_k (x := 0) (c := 0) (by decide)); have hb_ := h_172; simp only [rg, fa_lt, fa_le, fa_eq, (by decide : (0 : Int32).toInt = 0)] at ha hb_ c_509; omega
            · skip
              refine lv_aload_n hx hb dX7_heedPlace_55 rfl (lv_at hl 1 rfl) ?_
              refine va_get (D := (dC, dI)) (ci := 7) (v := .ref h1) (C := RX7) (T := TX7) (N := 14) hx hb hts hinX7 hown hK hP 0 rfl rfl 0 (by decide) (hts (.fieldLink RX7 9 "MayRings$Ways" "ground" "[I") (List.mem_of_getElem? (i := 2) rfl)) (fun _ h9 => h9) rfl dX7_heedPlace_56 ?_
              refine lv_iload hx hb dX7_heedPlace_59 (lv_at hl 0 rfl) ?_
              refine lv_dup2_11 hx hb dX7_heedPlace_61 rfl rfl ?_
              refine va_iald hx hb hK hP 1 1 rfl rfl (rg_in (n := 9) (rg_mono h_507 (by decide) (by decide))) dX7_heedPlace_62 ?_
              refine lv_topi (fun x_510 ex_510 => ?_)
              have hx_510 : rg (0) (511) x_510 := by rw [ex_510]; exact rg_mono (hf_489 _) (by decide) (by decide)
              refine lv_iconst (v := 1) hx hb dX7_heedPlace_63 (by decide) ?_
              refine lv_iload_n hx hb dX7_heedPlace_64 rfl (lv_at hl 2 rfl) ?_
              refine lv_ishl hx hb dX7_heedPlace_65 ?_
              refine lv_topi (fun x_511 ex_511 => ?_)
              have hx_511 : rg (1) (256) x_511 := by rw [ex_511]; exact rg_mono (rg_shl1 8 (rg_mono hp0 (by decide) (by decide)) (by decide)) (by decide) (by decide)
              refine lv_iconst (v := (-1)) hx hb dX7_heedPlace_66 (by decide) ?_
              refine lv_ixor hx hb dX7_heedPlace_67 ?_
              refine lv_topi (fun x_512 ex_512 => ?_)
              refine lv_iand hx hb dX7_heedPlace_68 ?_
              refine lv_topi (fun x_513 ex_513 => ?_)
              have hx_513 : rg (0) (511) x_513 := by rw [ex_513]; exact rg_mono (rg_andl (b := 511) (rg_mono hx_510 (by decide) (by decide))) (by decide) (by decide)
              have kx_513_0 : rg 1 2147483647 x_513 → rg 1 (511) x_510 := fun hq => rg_andP hx_510 (ex_513 ▸ hq)
              refine va_iast hx hb hK hP hD hS 1 1 rfl rfl (rg_in (n := 9) (rg_mono h_507 (by decide) (by decide))) dX7_heedPlace_69 (fun H locs hP hD hS => ?_)
              obtain ⟨f_514, ef_514⟩ : ∃ f : Nat → Int32, f = upd f_489 (x_490 : Int32).toNatClampNeg x_513 := ⟨_, rfl⟩
              rw [← ef_514] at hP hD
              have hf_514 : rgA (0) (511) f_514 := by rw [ef_514]; exact rgA_upd hf_489 (rg_mono hx_513 (by decide) (by decide))
              clear ef_514
              replace hP : va_P (dC, dI) vwCl [(h0, .inr (7, [.ref h1, .ref h2, .ref h3, .ref h4, .ref h5, .ref h6, .int a0, .int a1, .int a2, .int a3, .int a4, .int a5, .int a6, .int a7])), (h1, .inl (cI, 9, .inl f_514))] H := hP
              replace hD : va_D A [(h0, .inr (7, [.ref h1, .ref h2, .ref h3, .ref h4, .ref h5, .ref h6, .int a0, .int a1, .int a2, .int a3, .int a4, .int a5, .int a6, .int a7])), (h1, .inl (cI, 9, .inl f_514))] := hD
              obtain ⟨x_515, ex_515⟩ : ∃ y : Int32, y = x_490 + Int32.ofInt (1) := ⟨_, rfl⟩
              have hx_515 : rg (1) (9) x_515 := by rw [ex_515]; exact rg_mono (rg_add h_507 (rg_k (x := Int32.ofInt (1)) (c := 1) (by decide)) (by decide) (by decide)) (by decide) (by decide)
              have qx_515 : x_515.toInt = x_490.toInt + (1) := by rw [ex_515]; exact rg_addE h_507 (rg_k (x := Int32.ofInt (1)) (c := 1) (by decide)) (by decide) (by decide) (by decide)
              refine lv_iinc (v := x_515) (lv' := [(4, .int x_515), (0, .ref h0), (1, .int p0), (2, .int p1), (3, .int p2)]) hx hb dX7_heedPlace_70 hl (k := 0) rfl (ex_515.symm) (by decide) rfl (fun ls hl => ?_)
              clear ex_515
              refine lv_goto (tgt := 31) hx hb dX7_heedPlace_73 (by decide) ?_
              exact ih_504 (f_514, x_515) H locs ls ⟨hP.sub (ws' := [(h0, .inr (7, [.ref h1, .ref h2, .ref h3, .ref h4, .ref h5, .ref h6, .int a0, .int a1, .int a2, .int a3, .int a4, .int a5, .int a6, .int a7])), (h1, .inl (cI, 9, .inl f_514))]) [0, 1] rfl, hD.sub (ws' := [(h0, .inr (7, [.ref h1, .ref h2, .ref h3, .ref h4, .ref h5, .ref h6, .int a0, .int a1, .int a2, .int a3, .int a4, .int a5, .int a6, .int a7])), (h1, .inl (cI, 9, .inl f_514))]) [0, 1] (by decide) rfl, hS, lv_sub hl [0, 1, 2, 3, 4] rfl, hf_514, (rg_mono hx_515 (by decide) (by decide))⟩ (by show ((9) - x_515.toInt).toNat < ((9) - x_490.toInt).toNat; have ha := h_507; simp only [rg] at ha; omega)
          · skip
            refine lv_iconst (v := 1) hx hb dX7_heedPlace_46 (by decide) ?_
            refine lv_goto (tgt := 51) hx hb dX7_heedPlace_47 (by decide) ?_
            refine lv_iload_n hx hb dX7_heedPlace_51 rfl (lv_at hl 4 rfl) ?_
            refine lv_icmp_eq (tgt := 70) hx hb dX7_heedPlace_52 (by decide) (fun c_516 => ?_) (fun c_516 => ?_)
            · skip
              obtain ⟨x_517, ex_517⟩ : ∃ y : Int32, y = x_490 + Int32.ofInt (1) := ⟨_, rfl⟩
              have hx_517 : rg (1) (9) x_517 := by rw [ex_517]; exact rg_mono (rg_add h_507 (rg_k (x := Int32.ofInt (1)) (c := 1) (by decide)) (by decide) (by decide)) (by decide) (by decide)
              have qx_517 : x_517.toInt = x_490.toInt + (1) := by rw [ex_517]; exact rg_addE h_507 (rg_k (x := Int32.ofInt (1)) (c := 1) (by decide)) (by decide) (by decide) (by decide)
              refine lv_iinc (v := x_517) (lv' := [(4, .int x_517), (0, .ref h0), (1, .int p0), (2, .int p1), (3, .int p2)]) hx hb dX7_heedPlace_70 hl (k := 0) rfl (ex_517.symm) (by decide) rfl (fun ls hl => ?_)
              clear ex_517
              refine lv_goto (tgt := 31) hx hb dX7_heedPlace_73 (by decide) ?_
              exact ih_504 (f_489, x_517) H locs ls ⟨hP.sub (ws' := [(h0, .inr (7, [.ref h1, .ref h2, .ref h3, .ref h4, .ref h5, .ref h6, .int a0, .int a1, .int a2, .int a3, .int a4, .int a5, .int a6, .int a7])), (h1, .inl (cI, 9, .inl f_489))]) [0, 1] rfl, hD.sub (ws' := [(h0, .inr (7, [.ref h1, .ref h2, .ref h3, .ref h4, .ref h5, .ref h6, .int a0, .int a1, .int a2, .int a3, .int a4, .int a5, .int a6, .int a7])), (h1, .inl (cI, 9, .inl f_489))]) [0, 1] (by decide) rfl, hS, lv_sub hl [0, 1, 2, 3, 4] rfl, hf_489, (rg_mono hx_517 (by decide) (by decide))⟩ (by show ((9) - x_517.toInt).toNat < ((9) - x_490.toInt).toNat; have ha := h_507; simp only [rg] at ha; omega)
            · skip
              exfalso; have ha := (rg_k (x := 1) (c := 1) (by decide)); have hb_ := h_172; simp only [rg, fa_lt, fa_le, fa_eq, (by decide : (1 : Int32).toInt = 1)] at ha hb_ c_516; omega
      · skip
        have h_518 : rg (0) (8) a1 := by have ha := hp1; have hb_ := ha1; simp only [rg, fa_lt, fa_le, fa_eq] at ha hb_ c_349; simp only [rg]; omega
        refine lv_aload_n hx hb dX7_heedPlace_23 rfl (lv_at hl 0 rfl) ?_
        refine lv_iconst (v := 1) hx hb dX7_heedPlace_24 (by decide) ?_
        refine va_put (D := (dC, dI)) (ci := 7) (v := .int 1) (ty := .boolean) (C := RX7) (T := TX7) (N := 14) hx hb hts hinX7 tyX7 tyX7_ok nmX7 hown hK hP hD hS 0 rfl rfl 10 (by decide) (hts (.fieldLink RX7 44 "MayRings$Ways" "never" "Z") (List.mem_of_getElem? (i := 4) rfl)) (fun _ h9 => h9) rfl (by decide +kernel) (rfl) (rfl) (Nat.le_of_ble_eq_true rfl) dX7_heedPlace_25 (fun H locs hP hD hS => ?_)
        replace hP : va_P (dC, dI) vwCl [(h0, .inr (7, [.ref h1, .ref h2, .ref h3, .ref h4, .ref h5, .ref h6, .int a0, .int a1, .int a2, .int a3, .int 1, .int a5, .int a6, .int a7])), (h1, .inl (cI, 9, .inl g0))] H := hP
        replace hD : va_D A [(h0, .inr (7, [.ref h1, .ref h2, .ref h3, .ref h4, .ref h5, .ref h6, .int a0, .int a1, .int a2, .int a3, .int 1, .int a5, .int a6, .int a7])), (h1, .inl (cI, 9, .inl g0))] := hD
        refine lv_iconst (v := 0) hx hb dX7_heedPlace_28 (by decide) ?_
        refine lv_istore (lv' := [(4, .int 0), (0, .ref h0), (1, .int p0), (2, .int p1), (3, .int p2)]) hx hb dX7_heedPlace_29 hl (by decide) rfl (fun ls hl => ?_)
        refine W_loopM (σ := (Nat → Int32) × Int32) (fun u H locs ls => va_P (dC, dI) vwCl [(h0, .inr (7, [.ref h1, .ref h2, .ref h3, .ref h4, .ref h5, .ref h6, .int a0, .int a1, .int a2, .int a3, .int 1, .int a5, .int a6, .int a7])), (h1, .inl (cI, 9, .inl u.1))] H ∧ va_D A [(h0, .inr (7, [.ref h1, .ref h2, .ref h3, .ref h4, .ref h5, .ref h6, .int a0, .int a1, .int a2, .int a3, .int 1, .int a5, .int a6, .int a7])), (h1, .inl (cI, 9, .inl u.1))] ∧ va_S A s.heap H locs ∧ lv_has ls 5 [(4, .int u.2), (0, .ref h0), (1, .int p0), (2, .int p1), (3, .int p2)] ∧ rgA (0) (511) u.1 ∧ rg (0) (8) u.2) (fun u => ((8) - u.2.toInt).toNat) 31 [] ?_ (g0, 0) H locs ls ⟨hP, hD, hS, hl, hg0, (rg_mono (rg_k (x := 0) (c := 0) (by decide)) (by decide) (by decide))⟩
        rintro ⟨f_644, x_645⟩ H locs ls ⟨hP, hD, hS, hl, hf_644, hx_645⟩ ih_660
        replace hP : va_P (dC, dI) vwCl [(h0, .inr (7, [.ref h1, .ref h2, .ref h3, .ref h4, .ref h5, .ref h6, .int a0, .int a1, .int a2, .int a3, .int 1, .int a5, .int a6, .int a7])), (h1, .inl (cI, 9, .inl f_644))] H := hP
        replace hD : va_D A [(h0, .inr (7, [.ref h1, .ref h2, .ref h3, .ref h4, .ref h5, .ref h6, .int a0, .int a1, .int a2, .int a3, .int 1, .int a5, .int a6, .int a7])), (h1, .inl (cI, 9, .inl f_644))] := hD
        replace hl : lv_has ls 5 [(4, .int x_645), (0, .ref h0), (1, .int p0), (2, .int p1), (3, .int p2)] := hl
        replace hf_644 : rgA (0) (511) f_644 := hf_644
        replace hx_645 : rg (0) (8) x_645 := hx_645
        refine lv_iload hx hb dX7_heedPlace_31 (lv_at hl 0 rfl) ?_
        refine lv_aload_n hx hb dX7_heedPlace_33 rfl (lv_at hl 1 rfl) ?_
        refine va_get (D := (dC, dI)) (ci := 7) (v := .int a1) (C := RX7) (T := TX7) (N := 14) hx hb hts hinX7 hown hK hP 0 rfl rfl 7 (by decide) (hts (.fieldLink RX7 34 "MayRings$Ways" "size" "I") (List.mem_of_getElem? (i := 1) rfl)) (fun _ h9 => h9) rfl dX7_heedPlace_34 ?_
        refine lv_icmp_ge (tgt := 76) hx hb dX7_heedPlace_37 (by decide) (fun c_661 => ?_) (fun c_661 => ?_)
        · skip
          have hP9 := hP.sub (ws' := [(h0, .inr (7, [.ref h1, .ref h2, .ref h3, .ref h4, .ref h5, .ref h6, .int a0, .int a1, .int a2, .int a3, .int 1, .int a5, .int a6, .int a7])), (h1, .inl (cI, 9, .inl f_644))]) [0, 1] rfl
          have hD9 := hD.sub (ws' := [(h0, .inr (7, [.ref h1, .ref h2, .ref h3, .ref h4, .ref h5, .ref h6, .int a0, .int a1, .int a2, .int a3, .int 1, .int a5, .int a6, .int a7])), (h1, .inl (cI, 9, .inl f_644))]) [0, 1] (by decide) rfl
          exact W.vret hx hb hr (fun t ht hW => ⟨⟨(), rfl, trivial, ⟨1, f_644, (rg_mono (rg_k (x := 1) (c := 1) (by decide)) (by decide) (by decide)), hf_644, by rw [ht]; exact hP9, hD9⟩⟩, hS.F ht⟩) hS.2.2 dX7_heedPlace_76
        · skip
          have h_662 : rg (0) (7) x_645 := by have ha := hx_645; have hb_ := h_518; simp only [rg, fa_lt, fa_le, fa_eq] at ha hb_ c_661; simp only [rg]; omega
          have h_663 : rg (1) (8) a1 := by have ha := hx_645; have hb_ := h_518; simp only [rg, fa_lt, fa_le, fa_eq] at ha hb_ c_661; simp only [rg]; omega
          refine lv_iload hx hb dX7_heedPlace_40 (lv_at hl 0 rfl) ?_
          refine lv_iload_n hx hb dX7_heedPlace_42 rfl (lv_at hl 3 rfl) ?_
          refine lv_icmp_ne (tgt := 50) hx hb dX7_heedPlace_43 (by decide) (fun c_664 => ?_) (fun c_664 => ?_)
          · skip
            refine lv_iconst (v := 0) hx hb dX7_heedPlace_50 (by decide) ?_
            refine lv_iload_n hx hb dX7_heedPlace_51 rfl (lv_at hl 4 rfl) ?_
            refine lv_icmp_eq (tgt := 70) hx hb dX7_heedPlace_52 (by decide) (fun c_665 => ?_) (fun c_665 => ?_)
            · skip
              exfalso; have ha := (rg_k (x := 0) (c := 0) (by decide)); have hb_ := h_172; simp only [rg, fa_lt, fa_le, fa_eq, (by decide : (0 : Int32).toInt = 0)] at ha hb_ c_665; omega
            · skip
              refine lv_aload_n hx hb dX7_heedPlace_55 rfl (lv_at hl 1 rfl) ?_
              refine va_get (D := (dC, dI)) (ci := 7) (v := .ref h1) (C := RX7) (T := TX7) (N := 14) hx hb hts hinX7 hown hK hP 0 rfl rfl 0 (by decide) (hts (.fieldLink RX7 9 "MayRings$Ways" "ground" "[I") (List.mem_of_getElem? (i := 2) rfl)) (fun _ h9 => h9) rfl dX7_heedPlace_56 ?_
              refine lv_iload hx hb dX7_heedPlace_59 (lv_at hl 0 rfl) ?_
              refine lv_dup2_11 hx hb dX7_heedPlace_61 rfl rfl ?_
              refine va_iald hx hb hK hP 1 1 rfl rfl (rg_in (n := 9) (rg_mono h_662 (by decide) (by decide))) dX7_heedPlace_62 ?_
              refine lv_topi (fun x_666 ex_666 => ?_)
              have hx_666 : rg (0) (511) x_666 := by rw [ex_666]; exact rg_mono (hf_644 _) (by decide) (by decide)
              refine lv_iconst (v := 1) hx hb dX7_heedPlace_63 (by decide) ?_
              refine lv_iload_n hx hb dX7_heedPlace_64 rfl (lv_at hl 2 rfl) ?_
              refine lv_ishl hx hb dX7_heedPlace_65 ?_
              refine lv_topi (fun x_667 ex_667 => ?_)
              have hx_667 : rg (1) (256) x_667 := by rw [ex_667]; exact rg_mono (rg_shl1 8 (rg_mono hp0 (by decide) (by decide)) (by decide)) (by decide) (by decide)
              refine lv_iconst (v := (-1)) hx hb dX7_heedPlace_66 (by decide) ?_
              refine lv_ixor hx hb dX7_heedPlace_67 ?_
              refine lv_topi (fun x_668 ex_668 => ?_)
              refine lv_iand hx hb dX7_heedPlace_68 ?_
              refine lv_topi (fun x_669 ex_669 => ?_)
              have hx_669 : rg (0) (511) x_669 := by rw [ex_669]; exact rg_mono (rg_andl (b := 511) (rg_mono hx_666 (by decide) (by decide))) (by decide) (by decide)
              have kx_669_0 : rg 1 2147483647 x_669 → rg 1 (511) x_666 := fun hq => rg_andP hx_666 (ex_669 ▸ hq)
              refine va_iast hx hb hK hP hD hS 1 1 rfl rfl (rg_in (n := 9) (rg_mono h_662 (by decide) (by decide))) dX7_heedPlace_69 (fun H locs hP hD hS => ?_)
              obtain ⟨f_670, ef_670⟩ : ∃ f : Nat → Int32, f = upd f_644 (x_645 : Int32).toNatClampNeg x_669 := ⟨_, rfl⟩
              rw [← ef_670] at hP hD
              have hf_670 : rgA (0) (511) f_670 := by rw [ef_670]; exact rgA_upd hf_644 (rg_mono hx_669 (by decide) (by decide))
              clear ef_670
              replace hP : va_P (dC, dI) vwCl [(h0, .inr (7, [.ref h1, .ref h2, .ref h3, .ref h4, .ref h5, .ref h6, .int a0, .int a1, .int a2, .int a3, .int 1, .int a5, .int a6, .int a7])), (h1, .inl (cI, 9, .inl f_670))] H := hP
              replace hD : va_D A [(h0, .inr (7, [.ref h1, .ref h2, .ref h3, .ref h4, .ref h5, .ref h6, .int a0, .int a1, .int a2, .int a3, .int 1, .int a5, .int a6, .int a7])), (h1, .inl (cI, 9, .inl f_670))] := hD
              obtain ⟨x_671, ex_671⟩ : ∃ y : Int32, y = x_645 + Int32.ofInt (1) := ⟨_, rfl⟩
              have hx_671 : rg (1) (8) x_671 := by rw [ex_671]; exact rg_mono (rg_add h_662 (rg_k (x := Int32.ofInt (1)) (c := 1) (by decide)) (by decide) (by decide)) (by decide) (by decide)
              have qx_671 : x_671.toInt = x_645.toInt + (1) := by rw [ex_671]; exact rg_addE h_662 (rg_k (x := Int32.ofInt (1)) (c := 1) (by decide)) (by decide) (by decide) (by decide)
              refine lv_iinc (v := x_671) (lv' := [(4, .int x_671), (0, .ref h0), (1, .int p0), (2, .int p1), (3, .int p2)]) hx hb dX7_heedPlace_70 hl (k := 0) rfl (ex_671.symm) (by decide) rfl (fun ls hl => ?_)
              clear ex_671
              refine lv_goto (tgt := 31) hx hb dX7_heedPlace_73 (by decide) ?_
              exact ih_660 (f_670, x_671) H locs ls ⟨hP.sub (ws' := [(h0, .inr (7, [.ref h1, .ref h2, .ref h3, .ref h4, .ref h5, .ref h6, .int a0, .int a1, .int a2, .int a3, .int 1, .int a5, .int a6, .int a7])), (h1, .inl (cI, 9, .inl f_670))]) [0, 1] rfl, hD.sub (ws' := [(h0, .inr (7, [.ref h1, .ref h2, .ref h3, .ref h4, .ref h5, .ref h6, .int a0, .int a1, .int a2, .int a3, .int 1, .int a5, .int a6, .int a7])), (h1, .inl (cI, 9, .inl f_670))]) [0, 1] (by decide) rfl, hS, lv_sub hl [0, 1, 2, 3, 4] rfl, hf_670, (rg_mono hx_671 (by decide) (by decide))⟩ (by show ((8) - x_671.toInt).toNat < ((8) - x_645.toInt).toNat; have ha := h_662; simp only [rg] at ha; omega)
          · skip
            have h_672 : rg (0) (7) p1 := by have ha := h_662; have hb_ := hp1; simp only [rg, fa_lt, fa_le, fa_eq] at ha hb_ c_664; simp only [rg]; omega
            refine lv_iconst (v := 1) hx hb dX7_heedPlace_46 (by decide) ?_
            refine lv_goto (tgt := 51) hx hb dX7_heedPlace_47 (by decide) ?_
            refine lv_iload_n hx hb dX7_heedPlace_51 rfl (lv_at hl 4 rfl) ?_
            refine lv_icmp_eq (tgt := 70) hx hb dX7_heedPlace_52 (by decide) (fun c_673 => ?_) (fun c_673 => ?_)
            · skip
              obtain ⟨x_674, ex_674⟩ : ∃ y : Int32, y = x_645 + Int32.ofInt (1) := ⟨_, rfl⟩
              have hx_674 : rg (1) (8) x_674 := by rw [ex_674]; exact rg_mono (rg_add h_662 (rg_k (x := Int32.ofInt (1)) (c := 1) (by decide)) (by decide) (by decide)) (by decide) (by decide)
              have qx_674 : x_674.toInt = x_645.toInt + (1) := by rw [ex_674]; exact rg_addE h_662 (rg_k (x := Int32.ofInt (1)) (c := 1) (by decide)) (by decide) (by decide) (by decide)
              refine lv_iinc (v := x_674) (lv' := [(4, .int x_674), (0, .ref h0), (1, .int p0), (2, .int p1), (3, .int p2)]) hx hb dX7_heedPlace_70 hl (k := 0) rfl (ex_674.symm) (by decide) rfl (fun ls hl => ?_)
              clear ex_674
              refine lv_goto (tgt := 31) hx hb dX7_heedPlace_73 (by decide) ?_
              exact ih_660 (f_644, x_674) H locs ls ⟨hP.sub (ws' := [(h0, .inr (7, [.ref h1, .ref h2, .ref h3, .ref h4, .ref h5, .ref h6, .int a0, .int a1, .int a2, .int a3, .int 1, .int a5, .int a6, .int a7])), (h1, .inl (cI, 9, .inl f_644))]) [0, 1] rfl, hD.sub (ws' := [(h0, .inr (7, [.ref h1, .ref h2, .ref h3, .ref h4, .ref h5, .ref h6, .int a0, .int a1, .int a2, .int a3, .int 1, .int a5, .int a6, .int a7])), (h1, .inl (cI, 9, .inl f_644))]) [0, 1] (by decide) rfl, hS, lv_sub hl [0, 1, 2, 3, 4] rfl, hf_644, (rg_mono hx_674 (by decide) (by decide))⟩ (by show ((8) - x_674.toInt).toNat < ((8) - x_645.toInt).toNat; have ha := h_662; simp only [rg] at ha; omega)
            · skip
              exfalso; have ha := (rg_k (x := 1) (c := 1) (by decide)); have hb_ := h_172; simp only [rg, fa_lt, fa_le, fa_eq, (by decide : (1 : Int32).toInt = 1)] at ha hb_ c_673; omega
def v_s_X2_ask : List Cond := Cond.code yX2_ask cX2_ask 5 none :: ([Cond.fieldLink RX2 31 "MayRings$Letters" "count" "I", Cond.fieldLink RX2 25 "MayRings$Letters" "toldAt" "[I", Cond.fieldLink RX2 28 "MayRings$Letters" "untoldAt" "[I", Cond.fieldLink RX2 18 "MayRings$Letters" "ofPlace" "[Z", Cond.fieldLink RX2 11 "MayRings$Letters" "house" "[I", Cond.fieldLink RX2 15 "MayRings$Letters" "where" "[I", Cond.fieldLink RX2 22 "MayRings$Letters" "isSo" "[Z", Cond.methodLink RX2 44 yX7_heedPair, Cond.instanceMethod yX7_heedPair, Cond.selects RX7 yX7_heedPair yX7_heedPair, Cond.initialized RX7, Cond.methodLink RX2 38 yX7_heedPlace, Cond.instanceMethod yX7_heedPlace, Cond.selects RX7 yX7_heedPlace yX7_heedPlace] ++ (wsX20 ++ (v_s_X7_heedPair ++ (v_s_X7_heedPlace ++ ([])))))
theorem k_s_X2_ask : GoodIn lw_tbl v_s_X2_ask := gd_c (List.mem_of_getElem? (i := 1178) (by decide +kernel)) rfl (goodIn_app (gd_c (List.mem_of_getElem? (i := 410) (by decide +kernel)) rfl (gd_c (List.mem_of_getElem? (i := 408) (by decide +kernel)) rfl (gd_c (List.mem_of_getElem? (i := 409) (by decide +kernel)) rfl (gd_c (List.mem_of_getElem? (i := 406) (by decide +kernel)) rfl (gd_c (List.mem_of_getElem? (i := 404) (by decide +kernel)) rfl (gd_c (List.mem_of_getElem? (i := 405) (by decide +kernel)) rfl (gd_c (List.mem_of_getElem? (i := 407) (by decide +kernel)) rfl (gd_c (List.mem_of_getElem? (i := 1183) (by decide +kernel)) rfl (gd_c (List.mem_of_getElem? (i := 1184) (by decide +kernel)) rfl (gd_c (List.mem_of_getElem? (i := 1185) (by decide +kernel)) rfl (gd_c (List.mem_of_getElem? (i := 142) (by decide +kernel)) rfl (gd_c (List.mem_of_getElem? (i := 1179) (by decide +kernel)) rfl (gd_c (List.mem_of_getElem? (i := 1180) (by decide +kernel)) rfl (gd_c (List.mem_of_getElem? (i := 1181) (by decide +kernel)) rfl (gd_nil))))))))))))))) (goodIn_app kfX2 (goodIn_app k_s_X7_heedPair (goodIn_app k_s_X7_heedPlace (gd_nil)))))
set_option maxHeartbeats 2000000 in
set_option maxRecDepth 100000 in
theorem c_s_X2_ask (l : Launch) (dC : Nat → ClassId) (dI : Nat → Nat → Nat) (cB cI cJ cZ cP : ClassId) (h0 : Nat) (h1 : Nat) (g0 : Nat → Int32) (hg0 : rgA (0) (8) g0) (h2 : Nat) (g1 : Nat → Int32) (hg1 : rgA (0) (8) g1) (h3 : Nat) (g2 : Nat → Int32) (hg2 : rgA (0) (1) g2) (h4 : Nat) (g3 : Nat → Int32) (hg3 : rgA (0) (1) g3) (h5 : Nat) (g4 : Nat → Int32) (h6 : Nat) (g5 : Nat → Int32) (a0 : Int32) (ha0 : rg (0) (20) a0) (a1 : Int32) (h7 : Nat) (h8 : Nat) (g6 : Nat → Int32) (hg6 : rgA (0) (511) g6) (h9 : Nat) (g7 : Nat → Int32) (hg7 : rgA (0) (511) g7) (h10 : Nat) (g8 : Nat → Int32) (hg8 : rgA (0) (511) g8) (h11 : Nat) (h12 : Nat) (h13 : Nat) (a2 : Int32) (ha2 : rg (0) (511) a2) (a3 : Int32) (ha3 : rg (0) (9) a3) (a4 : Int32) (a5 : Int32) (a6 : Int32) (ha6 : rg (0) (1) a6) (a7 : Int32) (a8 : Int32) (a9 : Int32) (p1 : Int32) (sz : Nat) : Met l yX2_ask v_s_X2_ask ({ frames := 1, cells := 0, slots := 0, locals := 24 }) (va_Pc [.ref h0, .ref h7, .int p1] (fun U => U.heap.size = sz ∧ va_P (dC, dI) vwCl [(h0, .inr (2, [.ref h1, .ref h2, .ref h3, .ref h4, .ref h5, .ref h6, .int a0, .int a1])), (h1, .inl (cI, 20, .inl g0)), (h2, .inl (cI, 20, .inl g1)), (h3, .inl (cZ, 20, .inl g2)), (h4, .inl (cZ, 20, .inl g3)), (h5, .inl (cI, 20, .inl g4)), (h6, .inl (cI, 20, .inl g5)), (h7, .inr (7, [.ref h8, .ref h9, .ref h10, .ref h11, .ref h12, .ref h13, .int a2, .int a3, .int a4, .int a5, .int a6, .int a7, .int a8, .int a9])), (h8, .inl (cI, 9, .inl g6)), (h9, .inl (cI, 9, .inl g7)), (h10, .inl (cI, 9, .inl g8))] U.heap ∧ va_K (dC, dI) vwCl (ty5 cB cI cJ cZ cP) U ∧ va_D (fun _ => True) [(h0, .inr (2, [.ref h1, .ref h2, .ref h3, .ref h4, .ref h5, .ref h6, .int a0, .int a1])), (h1, .inl (cI, 20, .inl g0)), (h2, .inl (cI, 20, .inl g1)), (h3, .inl (cZ, 20, .inl g2)), (h4, .inl (cZ, 20, .inl g3)), (h5, .inl (cI, 20, .inl g4)), (h6, .inl (cI, 20, .inl g5)), (h7, .inr (7, [.ref h8, .ref h9, .ref h10, .ref h11, .ref h12, .ref h13, .int a2, .int a3, .int a4, .int a5, .int a6, .int a7, .int a8, .int a9])), (h8, .inl (cI, 9, .inl g6)), (h9, .inl (cI, 9, .inl g7)), (h10, .inl (cI, 9, .inl g8))])) (va_Qv (fun _ : Unit => True) (fun _ t => ∃ (z0 : Int32) (z1 : Nat → Int32) (z2 : Nat → Int32) (z3 : Nat → Int32), rg (0) (1) z0 ∧ rgA (0) (511) z1 ∧ rgA (0) (511) z2 ∧ rgA (0) (511) z3 ∧ va_P (dC, dI) vwCl [(h0, .inr (2, [.ref h1, .ref h2, .ref h3, .ref h4, .ref h5, .ref h6, .int a0, .int a1])), (h1, .inl (cI, 20, .inl g0)), (h2, .inl (cI, 20, .inl g1)), (h3, .inl (cZ, 20, .inl g2)), (h4, .inl (cZ, 20, .inl g3)), (h5, .inl (cI, 20, .inl g4)), (h6, .inl (cI, 20, .inl g5)), (h7, .inr (7, [.ref h8, .ref h9, .ref h10, .ref h11, .ref h12, .ref h13, .int a2, .int a3, .int a4, .int a5, .int z0, .int a7, .int a8, .int a9])), (h8, .inl (cI, 9, .inl z1)), (h9, .inl (cI, 9, .inl z2)), (h10, .inl (cI, 9, .inl z3))] t.heap ∧ va_D (va_A [(h0, .inr (2, [.ref h1, .ref h2, .ref h3, .ref h4, .ref h5, .ref h6, .int a0, .int a1])), (h1, .inl (cI, 20, .inl g0)), (h2, .inl (cI, 20, .inl g1)), (h3, .inl (cZ, 20, .inl g2)), (h4, .inl (cZ, 20, .inl g3)), (h5, .inl (cI, 20, .inl g4)), (h6, .inl (cI, 20, .inl g5)), (h7, .inr (7, [.ref h8, .ref h9, .ref h10, .ref h11, .ref h12, .ref h13, .int a2, .int a3, .int a4, .int a5, .int a6, .int a7, .int a8, .int a9])), (h8, .inl (cI, 9, .inl g6)), (h9, .inl (cI, 9, .inl g7)), (h10, .inl (cI, 9, .inl g8))] sz) [(h0, .inr (2, [.ref h1, .ref h2, .ref h3, .ref h4, .ref h5, .ref h6, .int a0, .int a1])), (h1, .inl (cI, 20, .inl g0)), (h2, .inl (cI, 20, .inl g1)), (h3, .inl (cZ, 20, .inl g2)), (h4, .inl (cZ, 20, .inl g3)), (h5, .inl (cI, 20, .inl g4)), (h6, .inl (cI, 20, .inl g5)), (h7, .inr (7, [.ref h8, .ref h9, .ref h10, .ref h11, .ref h12, .ref h13, .int a2, .int a3, .int a4, .int a5, .int z0, .int a7, .int a8, .int a9])), (h8, .inl (cI, 9, .inl z1)), (h9, .inl (cI, 9, .inl z2)), (h10, .inl (cI, 9, .inl z3))]) (va_A [(h0, .inr (2, [.ref h1, .ref h2, .ref h3, .ref h4, .ref h5, .ref h6, .int a0, .int a1])), (h1, .inl (cI, 20, .inl g0)), (h2, .inl (cI, 20, .inl g1)), (h3, .inl (cZ, 20, .inl g2)), (h4, .inl (cZ, 20, .inl g3)), (h5, .inl (cI, 20, .inl g4)), (h6, .inl (cI, 20, .inl g5)), (h7, .inr (7, [.ref h8, .ref h9, .ref h10, .ref h11, .ref h12, .ref h13, .int a2, .int a3, .int a4, .int a5, .int a6, .int a7, .int a8, .int a9])), (h8, .inl (cI, 9, .inl g6)), (h9, .inl (cI, 9, .inl g7)), (h10, .inl (cI, 9, .inl g8))] sz)) 0 0 (va_A [(h0, .inr (2, [.ref h1, .ref h2, .ref h3, .ref h4, .ref h5, .ref h6, .int a0, .int a1])), (h1, .inl (cI, 20, .inl g0)), (h2, .inl (cI, 20, .inl g1)), (h3, .inl (cZ, 20, .inl g2)), (h4, .inl (cZ, 20, .inl g3)), (h5, .inl (cI, 20, .inl g4)), (h6, .inl (cI, 20, .inl g5)), (h7, .inr (7, [.ref h8, .ref h9, .ref h10, .ref h11, .ref h12, .ref h13, .int a2, .int a3, .int a4, .int a5, .int a6, .int a7, .int a8, .int a9])), (h8, .inl (cI, 9, .inl g6)), (h9, .inl (cI, 9, .inl g7)), (h10, .inl (cI, 9, .inl g8))] sz) := by
  refine Met.ofW (cc := cX2_ask) (maxL := 5) (ret := none) (by decide) rfl ?_
  intro p e s m args below meth c s₁ B hml hv
  obtain ⟨rfl, hsz, hP, hK, hD0⟩ := hv
  have hx := B.exec
  have hb := B.bytes
  have hr := B.returns
  have hts := atoms_spec (ws := v_s_X2_ask) B.pre
  have hown : s.vm.findClass RX2 = some m.cls := findClass_of_methodNamed B.named
  have hlocks := B.notSynchronized
  have hinX2 : ∀ w ∈ wsX20, w ∈ v_s_X2_ask := fun _ h => List.mem_cons_of_mem _ (List.mem_append_right _ (List.mem_append_left _ h))
  subst hsz
  have hD := hD0.self (sz := s.heap.size)
  generalize hAe : va_A [(h0, .inr (2, [.ref h1, .ref h2, .ref h3, .ref h4, .ref h5, .ref h6, .int a0, .int a1])), (h1, .inl (cI, 20, .inl g0)), (h2, .inl (cI, 20, .inl g1)), (h3, .inl (cZ, 20, .inl g2)), (h4, .inl (cZ, 20, .inl g3)), (h5, .inl (cI, 20, .inl g4)), (h6, .inl (cI, 20, .inl g5)), (h7, .inr (7, [.ref h8, .ref h9, .ref h10, .ref h11, .ref h12, .ref h13, .int a2, .int a3, .int a4, .int a5, .int a6, .int a7, .int a8, .int a9])), (h8, .inl (cI, 9, .inl g6)), (h9, .inl (cI, 9, .inl g7)), (h10, .inl (cI, 9, .inl g8))] s.heap.size = A at hD ⊢
  have hA : ∀ q : Nat, s.heap.size ≤ q → A q := fun q h => by rw [← hAe]; exact Or.inr h
  have hP : va_P (dC, dI) vwCl [(h0, .inr (2, [.ref h1, .ref h2, .ref h3, .ref h4, .ref h5, .ref h6, .int a0, .int a1])), (h1, .inl (cI, 20, .inl g0)), (h2, .inl (cI, 20, .inl g1)), (h3, .inl (cZ, 20, .inl g2)), (h4, .inl (cZ, 20, .inl g3)), (h5, .inl (cI, 20, .inl g4)), (h6, .inl (cI, 20, .inl g5)), (h7, .inr (7, [.ref h8, .ref h9, .ref h10, .ref h11, .ref h12, .ref h13, .int a2, .int a3, .int a4, .int a5, .int a6, .int a7, .int a8, .int a9])), (h8, .inl (cI, 9, .inl g6)), (h9, .inl (cI, 9, .inl g7)), (h10, .inl (cI, 9, .inl g8))] s.heap := hP
  have hl := lv_entry ([.ref h0, .ref h7, .int p1]) (n := 5) (Nat.le_of_ble_eq_true rfl)
  rw [lg_entry_eq]
  generalize (lg_sl ([.ref h0, .ref h7, .int p1]) ++ List.replicate (5 - (lg_sl ([.ref h0, .ref h7, .int p1])).length) Slot.unset).toArray = ls at hl ⊢
  have hl : lv_has ls 5 [(0, .ref h0), (1, .ref h7), (2, .int p1)] := hl
  refine W_gen (A := A) hP (fun H locs hP hS => ?_)
  refine lv_iconst (v := 0) hx hb dX2_ask_0 (by decide) ?_
  refine lv_istore_n (lv' := [(3, .int 0), (0, .ref h0), (1, .ref h7), (2, .int p1)]) hx hb dX2_ask_1 rfl hl (by decide) rfl (fun ls hl => ?_)
  refine W_loopM (σ := Int32 × (Nat → Int32) × (Nat → Int32) × Int32 × (Nat → Int32)) (fun u H locs ls => va_P (dC, dI) vwCl [(h0, .inr (2, [.ref h1, .ref h2, .ref h3, .ref h4, .ref h5, .ref h6, .int a0, .int a1])), (h1, .inl (cI, 20, .inl g0)), (h2, .inl (cI, 20, .inl g1)), (h3, .inl (cZ, 20, .inl g2)), (h4, .inl (cZ, 20, .inl g3)), (h5, .inl (cI, 20, .inl g4)), (h6, .inl (cI, 20, .inl g5)), (h7, .inr (7, [.ref h8, .ref h9, .ref h10, .ref h11, .ref h12, .ref h13, .int a2, .int a3, .int a4, .int a5, .int u.2.2.2.1, .int a7, .int a8, .int a9])), (h8, .inl (cI, 9, .inl u.2.2.2.2)), (h9, .inl (cI, 9, .inl u.2.1)), (h10, .inl (cI, 9, .inl u.2.2.1))] H ∧ va_D A [(h0, .inr (2, [.ref h1, .ref h2, .ref h3, .ref h4, .ref h5, .ref h6, .int a0, .int a1])), (h1, .inl (cI, 20, .inl g0)), (h2, .inl (cI, 20, .inl g1)), (h3, .inl (cZ, 20, .inl g2)), (h4, .inl (cZ, 20, .inl g3)), (h5, .inl (cI, 20, .inl g4)), (h6, .inl (cI, 20, .inl g5)), (h7, .inr (7, [.ref h8, .ref h9, .ref h10, .ref h11, .ref h12, .ref h13, .int a2, .int a3, .int a4, .int a5, .int u.2.2.2.1, .int a7, .int a8, .int a9])), (h8, .inl (cI, 9, .inl u.2.2.2.2)), (h9, .inl (cI, 9, .inl u.2.1)), (h10, .inl (cI, 9, .inl u.2.2.1))] ∧ va_S A s.heap H locs ∧ lv_has ls 5 [(3, .int u.1), (0, .ref h0), (1, .ref h7), (2, .int p1)] ∧ rg (0) (20) u.1 ∧ rgA (0) (511) u.2.1 ∧ rgA (0) (511) u.2.2.1 ∧ rg (0) (1) u.2.2.2.1 ∧ rgA (0) (511) u.2.2.2.2) (fun u => ((20) - u.1.toInt).toNat) 2 [] ?_ (0, g7, g8, a6, g6) H locs ls ⟨hP, hD, hS, hl, (rg_mono (rg_k (x := 0) (c := 0) (by decide)) (by decide) (by decide)), hg7, hg8, (rg_mono ha6 (by decide) (by decide)), hg6⟩
  rintro ⟨x_860, f_861, f_862, x_863, f_864⟩ H locs ls ⟨hP, hD, hS, hl, hx_860, hf_861, hf_862, hx_863, hf_864⟩ ih_918
  replace hP : va_P (dC, dI) vwCl [(h0, .inr (2, [.ref h1, .ref h2, .ref h3, .ref h4, .ref h5, .ref h6, .int a0, .int a1])), (h1, .inl (cI, 20, .inl g0)), (h2, .inl (cI, 20, .inl g1)), (h3, .inl (cZ, 20, .inl g2)), (h4, .inl (cZ, 20, .inl g3)), (h5, .inl (cI, 20, .inl g4)), (h6, .inl (cI, 20, .inl g5)), (h7, .inr (7, [.ref h8, .ref h9, .ref h10, .ref h11, .ref h12, .ref h13, .int a2, .int a3, .int a4, .int a5, .int x_863, .int a7, .int a8, .int a9])), (h8, .inl (cI, 9, .inl f_864)), (h9, .inl (cI, 9, .inl f_861)), (h10, .inl (cI, 9, .inl f_862))] H := hP
  replace hD : va_D A [(h0, .inr (2, [.ref h1, .ref h2, .ref h3, .ref h4, .ref h5, .ref h6, .int a0, .int a1])), (h1, .inl (cI, 20, .inl g0)), (h2, .inl (cI, 20, .inl g1)), (h3, .inl (cZ, 20, .inl g2)), (h4, .inl (cZ, 20, .inl g3)), (h5, .inl (cI, 20, .inl g4)), (h6, .inl (cI, 20, .inl g5)), (h7, .inr (7, [.ref h8, .ref h9, .ref h10, .ref h11, .ref h12, .ref h13, .int a2, .int a3, .int a4, .int a5, .int x_863, .int a7, .int a8, .int a9])), (h8, .inl (cI, 9, .inl f_864)), (h9, .inl (cI, 9, .inl f_861)), (h10, .inl (cI, 9, .inl f_862))] := hD
  replace hl : lv_has ls 5 [(3, .int x_860), (0, .ref h0), (1, .ref h7), (2, .int p1)] := hl
  replace hx_860 : rg (0) (20) x_860 := hx_860
  replace hf_861 : rgA (0) (511) f_861 := hf_861
  replace hf_862 : rgA (0) (511) f_862 := hf_862
  replace hx_863 : rg (0) (1) x_863 := hx_863
  replace hf_864 : rgA (0) (511) f_864 := hf_864
  refine lv_iload_n hx hb dX2_ask_2 rfl (lv_at hl 0 rfl) ?_
  refine lv_aload_n hx hb dX2_ask_3 rfl (lv_at hl 1 rfl) ?_
  refine va_get (D := (dC, dI)) (ci := 2) (v := .int a0) (C := RX2) (T := TX2) (N := 8) hx hb hts hinX2 hown hK hP 0 rfl rfl 6 (by decide) (hts (.fieldLink RX2 31 "MayRings$Letters" "count" "I") (List.mem_of_getElem? (i := 1) rfl)) (fun _ h9 => h9) rfl dX2_ask_4 ?_
  refine lv_icmp_ge (tgt := 119) hx hb dX2_ask_7 (by decide) (fun c_919 => ?_) (fun c_919 => ?_)
  · skip
    have hP9 := hP.sub (ws' := [(h0, .inr (2, [.ref h1, .ref h2, .ref h3, .ref h4, .ref h5, .ref h6, .int a0, .int a1])), (h1, .inl (cI, 20, .inl g0)), (h2, .inl (cI, 20, .inl g1)), (h3, .inl (cZ, 20, .inl g2)), (h4, .inl (cZ, 20, .inl g3)), (h5, .inl (cI, 20, .inl g4)), (h6, .inl (cI, 20, .inl g5)), (h7, .inr (7, [.ref h8, .ref h9, .ref h10, .ref h11, .ref h12, .ref h13, .int a2, .int a3, .int a4, .int a5, .int x_863, .int a7, .int a8, .int a9])), (h8, .inl (cI, 9, .inl f_864)), (h9, .inl (cI, 9, .inl f_861)), (h10, .inl (cI, 9, .inl f_862))]) [0, 1, 2, 3, 4, 5, 6, 7, 8, 9, 10] rfl
    have hD9 := hD.sub (ws' := [(h0, .inr (2, [.ref h1, .ref h2, .ref h3, .ref h4, .ref h5, .ref h6, .int a0, .int a1])), (h1, .inl (cI, 20, .inl g0)), (h2, .inl (cI, 20, .inl g1)), (h3, .inl (cZ, 20, .inl g2)), (h4, .inl (cZ, 20, .inl g3)), (h5, .inl (cI, 20, .inl g4)), (h6, .inl (cI, 20, .inl g5)), (h7, .inr (7, [.ref h8, .ref h9, .ref h10, .ref h11, .ref h12, .ref h13, .int a2, .int a3, .int a4, .int a5, .int x_863, .int a7, .int a8, .int a9])), (h8, .inl (cI, 9, .inl f_864)), (h9, .inl (cI, 9, .inl f_861)), (h10, .inl (cI, 9, .inl f_862))]) [0, 1, 2, 3, 4, 5, 6, 7, 8, 9, 10] (by decide) rfl
    exact W.vret hx hb hr (fun t ht hW => ⟨⟨(), rfl, trivial, ⟨x_863, f_864, f_861, f_862, (rg_mono hx_863 (by decide) (by decide)), hf_864, hf_861, hf_862, by rw [ht]; exact hP9, hD9⟩⟩, hS.F ht⟩) hS.2.2 dX2_ask_119
  · skip
    have h_920 : rg (0) (19) x_860 := by have ha := hx_860; have hb_ := ha0; simp only [rg, fa_lt, fa_le, fa_eq] at ha hb_ c_919; simp only [rg]; omega
    have h_921 : rg (1) (20) a0 := by have ha := hx_860; have hb_ := ha0; simp only [rg, fa_lt, fa_le, fa_eq] at ha hb_ c_919; simp only [rg]; omega
    refine lv_aload_n hx hb dX2_ask_10 rfl (lv_at hl 1 rfl) ?_
    refine va_get (D := (dC, dI)) (ci := 2) (v := .ref h5) (C := RX2) (T := TX2) (N := 8) hx hb hts hinX2 hown hK hP 0 rfl rfl 4 (by decide) (hts (.fieldLink RX2 25 "MayRings$Letters" "toldAt" "[I") (List.mem_of_getElem? (i := 2) rfl)) (fun _ h9 => h9) rfl dX2_ask_11 ?_
    refine lv_iload_n hx hb dX2_ask_14 rfl (lv_at hl 0 rfl) ?_
    refine va_iald hx hb hK hP 5 1 rfl rfl (rg_in (n := 20) (rg_mono h_920 (by decide) (by decide))) dX2_ask_15 ?_
    refine lv_topi (fun x_922 ex_922 => ?_)
    refine lv_iload_n hx hb dX2_ask_16 rfl (lv_at hl 3 rfl) ?_
    refine lv_icmp_gt (tgt := 44) hx hb dX2_ask_17 (by decide) (fun c_923 => ?_) (fun c_923 => ?_)
    · skip
      have h_924 : rg (-2147483647) (2147483647) x_922 := by have ha := (rg_any x_922); have hb_ := (rg_any p1); simp only [rg, fa_lt, fa_le, fa_eq] at ha hb_ c_923; simp only [rg]; omega
      have h_925 : rg (-2147483648) (2147483646) p1 := by have ha := (rg_any x_922); have hb_ := (rg_any p1); simp only [rg, fa_lt, fa_le, fa_eq] at ha hb_ c_923; simp only [rg]; omega
      refine lv_iconst (v := 0) hx hb dX2_ask_44 (by decide) ?_
      refine lv_istore (lv' := [(4, .int 0), (3, .int x_860), (0, .ref h0), (1, .ref h7), (2, .int p1)]) hx hb dX2_ask_45 hl (by decide) rfl (fun ls hl => ?_)
      refine lv_iload hx hb dX2_ask_47 (lv_at hl 0 rfl) ?_
      refine lv_if_eq (tgt := 86) hx hb dX2_ask_49 (by decide) (fun _ => ?_) (fun cz => absurd (by decide) cz)
      refine lv_iload hx hb dX2_ask_86 (lv_at hl 0 rfl) ?_
      refine lv_if_eq (tgt := 113) hx hb dX2_ask_88 (by decide) (fun _ => ?_) (fun cz => absurd (by decide) cz)
      obtain ⟨x_926, ex_926⟩ : ∃ y : Int32, y = x_860 + Int32.ofInt (1) := ⟨_, rfl⟩
      have hx_926 : rg (1) (20) x_926 := by rw [ex_926]; exact rg_mono (rg_add h_920 (rg_k (x := Int32.ofInt (1)) (c := 1) (by decide)) (by decide) (by decide)) (by decide) (by decide)
      have qx_926 : x_926.toInt = x_860.toInt + (1) := by rw [ex_926]; exact rg_addE h_920 (rg_k (x := Int32.ofInt (1)) (c := 1) (by decide)) (by decide) (by decide) (by decide)
      refine lv_iinc (v := x_926) (lv' := [(3, .int x_926), (4, .int 0), (0, .ref h0), (1, .ref h7), (2, .int p1)]) hx hb dX2_ask_113 hl (k := 1) rfl (ex_926.symm) (by decide) rfl (fun ls hl => ?_)
      clear ex_926
      refine lv_goto (tgt := 2) hx hb dX2_ask_116 (by decide) ?_
      exact ih_918 (x_926, f_861, f_862, x_863, f_864) H locs ls ⟨hP.sub (ws' := [(h0, .inr (2, [.ref h1, .ref h2, .ref h3, .ref h4, .ref h5, .ref h6, .int a0, .int a1])), (h1, .inl (cI, 20, .inl g0)), (h2, .inl (cI, 20, .inl g1)), (h3, .inl (cZ, 20, .inl g2)), (h4, .inl (cZ, 20, .inl g3)), (h5, .inl (cI, 20, .inl g4)), (h6, .inl (cI, 20, .inl g5)), (h7, .inr (7, [.ref h8, .ref h9, .ref h10, .ref h11, .ref h12, .ref h13, .int a2, .int a3, .int a4, .int a5, .int x_863, .int a7, .int a8, .int a9])), (h8, .inl (cI, 9, .inl f_864)), (h9, .inl (cI, 9, .inl f_861)), (h10, .inl (cI, 9, .inl f_862))]) [0, 1, 2, 3, 4, 5, 6, 7, 8, 9, 10] rfl, hD.sub (ws' := [(h0, .inr (2, [.ref h1, .ref h2, .ref h3, .ref h4, .ref h5, .ref h6, .int a0, .int a1])), (h1, .inl (cI, 20, .inl g0)), (h2, .inl (cI, 20, .inl g1)), (h3, .inl (cZ, 20, .inl g2)), (h4, .inl (cZ, 20, .inl g3)), (h5, .inl (cI, 20, .inl g4)), (h6, .inl (cI, 20, .inl g5)), (h7, .inr (7, [.ref h8, .ref h9, .ref h10, .ref h11, .ref h12, .ref h13, .int a2, .int a3, .int a4, .int a5, .int x_863, .int a7, .int a8, .int a9])), (h8, .inl (cI, 9, .inl f_864)), (h9, .inl (cI, 9, .inl f_861)), (h10, .inl (cI, 9, .inl f_862))]) [0, 1, 2, 3, 4, 5, 6, 7, 8, 9, 10] (by decide) rfl, hS, lv_sub hl [0, 2, 3, 4] rfl, (rg_mono hx_926 (by decide) (by decide)), hf_861, hf_862, (rg_mono hx_863 (by decide) (by decide)), hf_864⟩ (by show ((20) - x_926.toInt).toNat < ((20) - x_860.toInt).toNat; have ha := h_920; simp only [rg] at ha; omega)
    · skip
      refine lv_aload_n hx hb dX2_ask_20 rfl (lv_at hl 1 rfl) ?_
      refine va_get (D := (dC, dI)) (ci := 2) (v := .ref h6) (C := RX2) (T := TX2) (N := 8) hx hb hts hinX2 hown hK hP 0 rfl rfl 5 (by decide) (hts (.fieldLink RX2 28 "MayRings$Letters" "untoldAt" "[I") (List.mem_of_getElem? (i := 3) rfl)) (fun _ h9 => h9) rfl dX2_ask_21 ?_
      refine lv_iload_n hx hb dX2_ask_24 rfl (lv_at hl 0 rfl) ?_
      refine va_iald hx hb hK hP 6 1 rfl rfl (rg_in (n := 20) (rg_mono h_920 (by decide) (by decide))) dX2_ask_25 ?_
      refine lv_topi (fun x_927 ex_927 => ?_)
      refine lv_iconst (v := (-1)) hx hb dX2_ask_26 (by decide) ?_
      refine lv_icmp_eq (tgt := 40) hx hb dX2_ask_27 (by decide) (fun c_928 => ?_) (fun c_928 => ?_)
      · skip
        have h_929 : rg (-1) (-1) x_927 := by have ha := (rg_any x_927); have hb_ := (rg_k (x := (-1)) (c := -1) (by decide)); simp only [rg, fa_lt, fa_le, fa_eq, (by decide : ((-1) : Int32).toInt = -1)] at ha hb_ c_928; simp only [rg]; omega
        refine lv_iconst (v := 1) hx hb dX2_ask_40 (by decide) ?_
        refine lv_goto (tgt := 45) hx hb dX2_ask_41 (by decide) ?_
        refine lv_istore (lv' := [(4, .int 1), (3, .int x_860), (0, .ref h0), (1, .ref h7), (2, .int p1)]) hx hb dX2_ask_45 hl (by decide) rfl (fun ls hl => ?_)
        refine lv_iload hx hb dX2_ask_47 (lv_at hl 0 rfl) ?_
        refine lv_if_eq (tgt := 86) hx hb dX2_ask_49 (by decide) (fun cz => absurd cz (by decide)) (fun _ => ?_)
        refine lv_aload_n hx hb dX2_ask_52 rfl (lv_at hl 2 rfl) ?_
        refine va_get (D := (dC, dI)) (ci := 2) (v := .ref h3) (C := RX2) (T := TX2) (N := 8) hx hb hts hinX2 hown hK hP 0 rfl rfl 2 (by decide) (hts (.fieldLink RX2 18 "MayRings$Letters" "ofPlace" "[Z") (List.mem_of_getElem? (i := 4) rfl)) (fun _ h9 => h9) rfl dX2_ask_53 ?_
        refine lv_iload_n hx hb dX2_ask_56 rfl (lv_at hl 1 rfl) ?_
        refine va_zald hx hb hK hP 3 3 rfl rfl (rg_in (n := 20) (rg_mono h_920 (by decide) (by decide))) dX2_ask_57 ?_
        refine lv_topi (fun x_930 ex_930 => ?_)
        have hx_930 : rg (0) (1) x_930 := by rw [ex_930]; exact rg_mono (hg2 _) (by decide) (by decide)
        refine lv_if_eq (tgt := 86) hx hb dX2_ask_58 (by decide) (fun c_931 => ?_) (fun c_931 => ?_)
        · skip
          have h_932 : rg (0) (0) x_930 := by have ha := hx_930; have hb_ := (rg_k (x := 0) (c := 0) (by decide)); simp only [rg, fa_lt, fa_le, fa_eq, (by decide : (0 : Int32).toInt = 0)] at ha hb_ c_931; simp only [rg]; omega
          refine lv_iload hx hb dX2_ask_86 (lv_at hl 0 rfl) ?_
          refine lv_if_eq (tgt := 113) hx hb dX2_ask_88 (by decide) (fun cz => absurd cz (by decide)) (fun _ => ?_)
          refine lv_aload_n hx hb dX2_ask_91 rfl (lv_at hl 3 rfl) ?_
          refine lv_aload_n hx hb dX2_ask_92 rfl (lv_at hl 2 rfl) ?_
          refine va_get (D := (dC, dI)) (ci := 2) (v := .ref h1) (C := RX2) (T := TX2) (N := 8) hx hb hts hinX2 hown hK hP 0 rfl rfl 0 (by decide) (hts (.fieldLink RX2 11 "MayRings$Letters" "house" "[I") (List.mem_of_getElem? (i := 5) rfl)) (fun _ h9 => h9) rfl dX2_ask_93 ?_
          refine lv_iload_n hx hb dX2_ask_96 rfl (lv_at hl 1 rfl) ?_
          refine va_iald hx hb hK hP 1 1 rfl rfl (rg_in (n := 20) (rg_mono h_920 (by decide) (by decide))) dX2_ask_97 ?_
          refine lv_topi (fun x_933 ex_933 => ?_)
          have hx_933 : rg (0) (8) x_933 := by rw [ex_933]; exact rg_mono (hg0 _) (by decide) (by decide)
          refine lv_aload_n hx hb dX2_ask_98 rfl (lv_at hl 2 rfl) ?_
          refine va_get (D := (dC, dI)) (ci := 2) (v := .ref h2) (C := RX2) (T := TX2) (N := 8) hx hb hts hinX2 hown hK hP 0 rfl rfl 1 (by decide) (hts (.fieldLink RX2 15 "MayRings$Letters" "where" "[I") (List.mem_of_getElem? (i := 6) rfl)) (fun _ h9 => h9) rfl dX2_ask_99 ?_
          refine lv_iload_n hx hb dX2_ask_102 rfl (lv_at hl 1 rfl) ?_
          refine va_iald hx hb hK hP 2 1 rfl rfl (rg_in (n := 20) (rg_mono h_920 (by decide) (by decide))) dX2_ask_103 ?_
          refine lv_topi (fun x_934 ex_934 => ?_)
          have hx_934 : rg (0) (8) x_934 := by rw [ex_934]; exact rg_mono (hg1 _) (by decide) (by decide)
          refine lv_aload_n hx hb dX2_ask_104 rfl (lv_at hl 2 rfl) ?_
          refine va_get (D := (dC, dI)) (ci := 2) (v := .ref h4) (C := RX2) (T := TX2) (N := 8) hx hb hts hinX2 hown hK hP 0 rfl rfl 3 (by decide) (hts (.fieldLink RX2 22 "MayRings$Letters" "isSo" "[Z") (List.mem_of_getElem? (i := 7) rfl)) (fun _ h9 => h9) rfl dX2_ask_105 ?_
          refine lv_iload_n hx hb dX2_ask_108 rfl (lv_at hl 1 rfl) ?_
          refine va_zald hx hb hK hP 4 3 rfl rfl (rg_in (n := 20) (rg_mono h_920 (by decide) (by decide))) dX2_ask_109 ?_
          refine lv_topi (fun x_935 ex_935 => ?_)
          have hx_935 : rg (0) (1) x_935 := by rw [ex_935]; exact rg_mono (hg3 _) (by decide) (by decide)
          have hPc := hP.sub (ws' := [(h7, .inr (7, [.ref h8, .ref h9, .ref h10, .ref h11, .ref h12, .ref h13, .int a2, .int a3, .int a4, .int a5, .int x_863, .int a7, .int a8, .int a9])), (h9, .inl (cI, 9, .inl f_861)), (h10, .inl (cI, 9, .inl f_862))]) [7, 9, 10] rfl
          have hDc := hD.sub (ws' := [(h7, .inr (7, [.ref h8, .ref h9, .ref h10, .ref h11, .ref h12, .ref h13, .int a2, .int a3, .int a4, .int a5, .int x_863, .int a7, .int a8, .int a9])), (h9, .inl (cI, 9, .inl f_861)), (h10, .inl (cI, 9, .inl f_862))]) [7, 9, 10] (by decide) rfl
          have hFc := va_free (wc := [(h7, .inr (7, [.ref h8, .ref h9, .ref h10, .ref h11, .ref h12, .ref h13, .int a2, .int a3, .int a4, .int a5, .int x_863, .int a7, .int a8, .int a9])), (h9, .inl (cI, 9, .inl f_861)), (h10, .inl (cI, 9, .inl f_862))]) hD hS hA [7, 9, 10] rfl
          refine va_callv (va_runV (As := [.int x_933, .int x_934, .int x_935]) (rest := []) ⟨hx, hb, hml, hown, hts⟩ (c_s_X7_heedPair l dC dI cB cI cJ cZ cP h7 h8 h9 f_861 hf_861 h10 f_862 hf_862 h11 h12 h13 a2 (rg_mono ha2 (by decide) (by decide)) a3 a4 a5 x_863 (rg_mono hx_863 (by decide) (by decide)) a7 a8 a9 x_933 (rg_mono hx_933 (by decide) (by decide)) x_934 (rg_mono hx_934 (by decide) (by decide)) x_935 (rg_mono hx_935 (by decide) (by decide)) H.size) (cwV 3 hts (gd_V (List.mem_of_getElem? (i := 8) rfl) (List.mem_of_getElem? (i := 9) rfl) (List.mem_of_getElem? (i := 10) rfl) (List.mem_of_getElem? (i := 11) rfl) (gd_mono k_s_X7_heedPair (fun _ h => List.mem_cons_of_mem _ (List.mem_append_right _ (List.mem_append_right _ (List.mem_append_left _ h)))))) rfl rfl rfl (by decide +kernel) ⟨Nat.le_of_ble_eq_true rfl, Nat.le_of_ble_eq_true rfl⟩) ⟨fun a U g mk q => by obtain ⟨q0, q1, qP, qK, qD⟩ := q; exact ⟨q0, q1, qP, va_K.moved (u := U) (U := U.calling g mk a) (Vm.Alike.refl U.vm) qK, qD⟩, va_recv hK hPc (ci := 7) (q0 := 0) rfl rfl, fun U hU hW => ⟨rfl, by rw [hU], by rw [hU]; exact hPc, va_K.moved hW.alike hK, hDc.weaken (fun _ _ _ _ => trivial)⟩⟩ rfl rfl hl.1 rfl (lv_room (Nat.le_of_ble_eq_true rfl)) dX2_ask_110 ⟨Nat.le_of_ble_eq_true rfl, Nat.le_of_ble_eq_true rfl⟩) hS (fun q _ h => hFc q h) hFc (fun u t H1 locs ht hvm hw hB hz1 hk1 hS => ?_)
          obtain ⟨x_937, f_938, f_939, hx_937, hf_938, hf_939, hP1, hD1⟩ := hB
          rw [ht] at hP1
          obtain ⟨hP, hD⟩ := va_join (wr := [(h0, .inr (2, [.ref h1, .ref h2, .ref h3, .ref h4, .ref h5, .ref h6, .int a0, .int a1])), (h1, .inl (cI, 20, .inl g0)), (h2, .inl (cI, 20, .inl g1)), (h3, .inl (cZ, 20, .inl g2)), (h4, .inl (cZ, 20, .inl g3)), (h5, .inl (cI, 20, .inl g4)), (h6, .inl (cI, 20, .inl g5)), (h8, .inl (cI, 9, .inl f_864))]) (w1 := [(h7, .inr (7, [.ref h8, .ref h9, .ref h10, .ref h11, .ref h12, .ref h13, .int a2, .int a3, .int a4, .int a5, .int x_937, .int a7, .int a8, .int a9])), (h9, .inl (cI, 9, .inl f_938)), (h10, .inl (cI, 9, .inl f_939))]) hP hD [7, 9, 10] [0, 1, 2, 3, 4, 5, 6, 8] rfl rfl (by decide) (by decide) hk1 hFc hP1 hD1
          generalize H1 = H at hP hS ⊢
          replace hP : va_P (dC, dI) vwCl [(h0, .inr (2, [.ref h1, .ref h2, .ref h3, .ref h4, .ref h5, .ref h6, .int a0, .int a1])), (h1, .inl (cI, 20, .inl g0)), (h2, .inl (cI, 20, .inl g1)), (h3, .inl (cZ, 20, .inl g2)), (h4, .inl (cZ, 20, .inl g3)), (h5, .inl (cI, 20, .inl g4)), (h6, .inl (cI, 20, .inl g5)), (h8, .inl (cI, 9, .inl f_864)), (h7, .inr (7, [.ref h8, .ref h9, .ref h10, .ref h11, .ref h12, .ref h13, .int a2, .int a3, .int a4, .int a5, .int x_937, .int a7, .int a8, .int a9])), (h9, .inl (cI, 9, .inl f_938)), (h10, .inl (cI, 9, .inl f_939))] H := hP
          replace hD : va_D A [(h0, .inr (2, [.ref h1, .ref h2, .ref h3, .ref h4, .ref h5, .ref h6, .int a0, .int a1])), (h1, .inl (cI, 20, .inl g0)), (h2, .inl (cI, 20, .inl g1)), (h3, .inl (cZ, 20, .inl g2)), (h4, .inl (cZ, 20, .inl g3)), (h5, .inl (cI, 20, .inl g4)), (h6, .inl (cI, 20, .inl g5)), (h8, .inl (cI, 9, .inl f_864)), (h7, .inr (7, [.ref h8, .ref h9, .ref h10, .ref h11, .ref h12, .ref h13, .int a2, .int a3, .int a4, .int a5, .int x_937, .int a7, .int a8, .int a9])), (h9, .inl (cI, 9, .inl f_938)), (h10, .inl (cI, 9, .inl f_939))] := hD
          obtain ⟨x_940, ex_940⟩ : ∃ y : Int32, y = x_860 + Int32.ofInt (1) := ⟨_, rfl⟩
          have hx_940 : rg (1) (20) x_940 := by rw [ex_940]; exact rg_mono (rg_add h_920 (rg_k (x := Int32.ofInt (1)) (c := 1) (by decide)) (by decide) (by decide)) (by decide) (by decide)
          have qx_940 : x_940.toInt = x_860.toInt + (1) := by rw [ex_940]; exact rg_addE h_920 (rg_k (x := Int32.ofInt (1)) (c := 1) (by decide)) (by decide) (by decide) (by decide)
          refine lv_iinc (v := x_940) (lv' := [(3, .int x_940), (4, .int 1), (0, .ref h0), (1, .ref h7), (2, .int p1)]) hx hb dX2_ask_113 hl (k := 1) rfl (ex_940.symm) (by decide) rfl (fun ls hl => ?_)
          clear ex_940
          refine lv_goto (tgt := 2) hx hb dX2_ask_116 (by decide) ?_
          exact ih_918 (x_940, f_938, f_939, x_937, f_864) H locs ls ⟨hP.sub (ws' := [(h0, .inr (2, [.ref h1, .ref h2, .ref h3, .ref h4, .ref h5, .ref h6, .int a0, .int a1])), (h1, .inl (cI, 20, .inl g0)), (h2, .inl (cI, 20, .inl g1)), (h3, .inl (cZ, 20, .inl g2)), (h4, .inl (cZ, 20, .inl g3)), (h5, .inl (cI, 20, .inl g4)), (h6, .inl (cI, 20, .inl g5)), (h7, .inr (7, [.ref h8, .ref h9, .ref h10, .ref h11, .ref h12, .ref h13, .int a2, .int a3, .int a4, .int a5, .int x_937, .int a7, .int a8, .int a9])), (h8, .inl (cI, 9, .inl f_864)), (h9, .inl (cI, 9, .inl f_938)), (h10, .inl (cI, 9, .inl f_939))]) [0, 1, 2, 3, 4, 5, 6, 8, 7, 9, 10] rfl, hD.sub (ws' := [(h0, .inr (2, [.ref h1, .ref h2, .ref h3, .ref h4, .ref h5, .ref h6, .int a0, .int a1])), (h1, .inl (cI, 20, .inl g0)), (h2, .inl (cI, 20, .inl g1)), (h3, .inl (cZ, 20, .inl g2)), (h4, .inl (cZ, 20, .inl g3)), (h5, .inl (cI, 20, .inl g4)), (h6, .inl (cI, 20, .inl g5)), (h7, .inr (7, [.ref h8, .ref h9, .ref h10, .ref h11, .ref h12, .ref h13, .int a2, .int a3, .int a4, .int a5, .int x_937, .int a7, .int a8, .int a9])), (h8, .inl (cI, 9, .inl f_864)), (h9, .inl (cI, 9, .inl f_938)), (h10, .inl (cI, 9, .inl f_939))]) [0, 1, 2, 3, 4, 5, 6, 8, 7, 9, 10] (by decide) rfl, hS, lv_sub hl [0, 2, 3, 4] rfl, (rg_mono hx_940 (by decide) (by decide)), hf_938, hf_939, (rg_mono hx_937 (by decide) (by decide)), hf_864⟩ (by show ((20) - x_940.toInt).toNat < ((20) - x_860.toInt).toNat; have ha := h_920; simp only [rg] at ha; omega)
        · skip
          have h_941 : rg (1) (1) x_930 := by have ha := hx_930; have hb_ := (rg_k (x := 0) (c := 0) (by decide)); simp only [rg, fa_lt, fa_le, fa_eq, (by decide : (0 : Int32).toInt = 0)] at ha hb_ c_931; simp only [rg]; omega
          refine lv_aload_n hx hb dX2_ask_61 rfl (lv_at hl 3 rfl) ?_
          refine lv_aload_n hx hb dX2_ask_62 rfl (lv_at hl 2 rfl) ?_
          refine va_get (D := (dC, dI)) (ci := 2) (v := .ref h1) (C := RX2) (T := TX2) (N := 8) hx hb hts hinX2 hown hK hP 0 rfl rfl 0 (by decide) (hts (.fieldLink RX2 11 "MayRings$Letters" "house" "[I") (List.mem_of_getElem? (i := 5) rfl)) (fun _ h9 => h9) rfl dX2_ask_63 ?_
          refine lv_iload_n hx hb dX2_ask_66 rfl (lv_at hl 1 rfl) ?_
          refine va_iald hx hb hK hP 1 1 rfl rfl (rg_in (n := 20) (rg_mono h_920 (by decide) (by decide))) dX2_ask_67 ?_
          refine lv_topi (fun x_942 ex_942 => ?_)
          have hx_942 : rg (0) (8) x_942 := by rw [ex_942]; exact rg_mono (hg0 _) (by decide) (by decide)
          refine lv_aload_n hx hb dX2_ask_68 rfl (lv_at hl 2 rfl) ?_
          refine va_get (D := (dC, dI)) (ci := 2) (v := .ref h2) (C := RX2) (T := TX2) (N := 8) hx hb hts hinX2 hown hK hP 0 rfl rfl 1 (by decide) (hts (.fieldLink RX2 15 "MayRings$Letters" "where" "[I") (List.mem_of_getElem? (i := 6) rfl)) (fun _ h9 => h9) rfl dX2_ask_69 ?_
          refine lv_iload_n hx hb dX2_ask_72 rfl (lv_at hl 1 rfl) ?_
          refine va_iald hx hb hK hP 2 1 rfl rfl (rg_in (n := 20) (rg_mono h_920 (by decide) (by decide))) dX2_ask_73 ?_
          refine lv_topi (fun x_943 ex_943 => ?_)
          have hx_943 : rg (0) (8) x_943 := by rw [ex_943]; exact rg_mono (hg1 _) (by decide) (by decide)
          refine lv_aload_n hx hb dX2_ask_74 rfl (lv_at hl 2 rfl) ?_
          refine va_get (D := (dC, dI)) (ci := 2) (v := .ref h4) (C := RX2) (T := TX2) (N := 8) hx hb hts hinX2 hown hK hP 0 rfl rfl 3 (by decide) (hts (.fieldLink RX2 22 "MayRings$Letters" "isSo" "[Z") (List.mem_of_getElem? (i := 7) rfl)) (fun _ h9 => h9) rfl dX2_ask_75 ?_
          refine lv_iload_n hx hb dX2_ask_78 rfl (lv_at hl 1 rfl) ?_
          refine va_zald hx hb hK hP 4 3 rfl rfl (rg_in (n := 20) (rg_mono h_920 (by decide) (by decide))) dX2_ask_79 ?_
          refine lv_topi (fun x_944 ex_944 => ?_)
          have hx_944 : rg (0) (1) x_944 := by rw [ex_944]; exact rg_mono (hg3 _) (by decide) (by decide)
          have hPc := hP.sub (ws' := [(h7, .inr (7, [.ref h8, .ref h9, .ref h10, .ref h11, .ref h12, .ref h13, .int a2, .int a3, .int a4, .int a5, .int x_863, .int a7, .int a8, .int a9])), (h8, .inl (cI, 9, .inl f_864))]) [7, 8] rfl
          have hDc := hD.sub (ws' := [(h7, .inr (7, [.ref h8, .ref h9, .ref h10, .ref h11, .ref h12, .ref h13, .int a2, .int a3, .int a4, .int a5, .int x_863, .int a7, .int a8, .int a9])), (h8, .inl (cI, 9, .inl f_864))]) [7, 8] (by decide) rfl
          have hFc := va_free (wc := [(h7, .inr (7, [.ref h8, .ref h9, .ref h10, .ref h11, .ref h12, .ref h13, .int a2, .int a3, .int a4, .int a5, .int x_863, .int a7, .int a8, .int a9])), (h8, .inl (cI, 9, .inl f_864))]) hD hS hA [7, 8] rfl
          refine va_callv (va_runV (As := [.int x_942, .int x_943, .int x_944]) (rest := []) ⟨hx, hb, hml, hown, hts⟩ (c_s_X7_heedPlace l dC dI cB cI cJ cZ cP h7 h8 f_864 hf_864 h9 h10 h11 h12 h13 a2 (rg_mono ha2 (by decide) (by decide)) a3 (rg_mono ha3 (by decide) (by decide)) a4 a5 x_863 (rg_mono hx_863 (by decide) (by decide)) a7 a8 a9 x_942 (rg_mono hx_942 (by decide) (by decide)) x_943 (rg_mono hx_943 (by decide) (by decide)) x_944 (rg_mono hx_944 (by decide) (by decide)) H.size) (cwV 3 hts (gd_V (List.mem_of_getElem? (i := 12) rfl) (List.mem_of_getElem? (i := 13) rfl) (List.mem_of_getElem? (i := 14) rfl) (List.mem_of_getElem? (i := 11) rfl) (gd_mono k_s_X7_heedPlace (fun _ h => List.mem_cons_of_mem _ (List.mem_append_right _ (List.mem_append_right _ (List.mem_append_right _ (List.mem_append_left _ h))))))) rfl rfl rfl (by decide +kernel) ⟨Nat.le_of_ble_eq_true rfl, Nat.le_of_ble_eq_true rfl⟩) ⟨fun a U g mk q => by obtain ⟨q0, q1, qP, qK, qD⟩ := q; exact ⟨q0, q1, qP, va_K.moved (u := U) (U := U.calling g mk a) (Vm.Alike.refl U.vm) qK, qD⟩, va_recv hK hPc (ci := 7) (q0 := 0) rfl rfl, fun U hU hW => ⟨rfl, by rw [hU], by rw [hU]; exact hPc, va_K.moved hW.alike hK, hDc.weaken (fun _ _ _ _ => trivial)⟩⟩ rfl rfl hl.1 rfl (lv_room (Nat.le_of_ble_eq_true rfl)) dX2_ask_80 ⟨Nat.le_of_ble_eq_true rfl, Nat.le_of_ble_eq_true rfl⟩) hS (fun q _ h => hFc q h) hFc (fun u t H1 locs ht hvm hw hB hz1 hk1 hS => ?_)
          obtain ⟨x_946, f_947, hx_946, hf_947, hP1, hD1⟩ := hB
          rw [ht] at hP1
          obtain ⟨hP, hD⟩ := va_join (wr := [(h0, .inr (2, [.ref h1, .ref h2, .ref h3, .ref h4, .ref h5, .ref h6, .int a0, .int a1])), (h1, .inl (cI, 20, .inl g0)), (h2, .inl (cI, 20, .inl g1)), (h3, .inl (cZ, 20, .inl g2)), (h4, .inl (cZ, 20, .inl g3)), (h5, .inl (cI, 20, .inl g4)), (h6, .inl (cI, 20, .inl g5)), (h9, .inl (cI, 9, .inl f_861)), (h10, .inl (cI, 9, .inl f_862))]) (w1 := [(h7, .inr (7, [.ref h8, .ref h9, .ref h10, .ref h11, .ref h12, .ref h13, .int a2, .int a3, .int a4, .int a5, .int x_946, .int a7, .int a8, .int a9])), (h8, .inl (cI, 9, .inl f_947))]) hP hD [7, 8] [0, 1, 2, 3, 4, 5, 6, 9, 10] rfl rfl (by decide) (by decide) hk1 hFc hP1 hD1
          generalize H1 = H at hP hS ⊢
          replace hP : va_P (dC, dI) vwCl [(h0, .inr (2, [.ref h1, .ref h2, .ref h3, .ref h4, .ref h5, .ref h6, .int a0, .int a1])), (h1, .inl (cI, 20, .inl g0)), (h2, .inl (cI, 20, .inl g1)), (h3, .inl (cZ, 20, .inl g2)), (h4, .inl (cZ, 20, .inl g3)), (h5, .inl (cI, 20, .inl g4)), (h6, .inl (cI, 20, .inl g5)), (h9, .inl (cI, 9, .inl f_861)), (h10, .inl (cI, 9, .inl f_862)), (h7, .inr (7, [.ref h8, .ref h9, .ref h10, .ref h11, .ref h12, .ref h13, .int a2, .int a3, .int a4, .int a5, .int x_946, .int a7, .int a8, .int a9])), (h8, .inl (cI, 9, .inl f_947))] H := hP
          replace hD : va_D A [(h0, .inr (2, [.ref h1, .ref h2, .ref h3, .ref h4, .ref h5, .ref h6, .int a0, .int a1])), (h1, .inl (cI, 20, .inl g0)), (h2, .inl (cI, 20, .inl g1)), (h3, .inl (cZ, 20, .inl g2)), (h4, .inl (cZ, 20, .inl g3)), (h5, .inl (cI, 20, .inl g4)), (h6, .inl (cI, 20, .inl g5)), (h9, .inl (cI, 9, .inl f_861)), (h10, .inl (cI, 9, .inl f_862)), (h7, .inr (7, [.ref h8, .ref h9, .ref h10, .ref h11, .ref h12, .ref h13, .int a2, .int a3, .int a4, .int a5, .int x_946, .int a7, .int a8, .int a9])), (h8, .inl (cI, 9, .inl f_947))] := hD
          refine lv_goto (tgt := 113) hx hb dX2_ask_83 (by decide) ?_
          obtain ⟨x_948, ex_948⟩ : ∃ y : Int32, y = x_860 + Int32.ofInt (1) := ⟨_, rfl⟩
          have hx_948 : rg (1) (20) x_948 := by rw [ex_948]; exact rg_mono (rg_add h_920 (rg_k (x := Int32.ofInt (1)) (c := 1) (by decide)) (by decide) (by decide)) (by decide) (by decide)
          have qx_948 : x_948.toInt = x_860.toInt + (1) := by rw [ex_948]; exact rg_addE h_920 (rg_k (x := Int32.ofInt (1)) (c := 1) (by decide)) (by decide) (by decide) (by decide)
          refine lv_iinc (v := x_948) (lv' := [(3, .int x_948), (4, .int 1), (0, .ref h0), (1, .ref h7), (2, .int p1)]) hx hb dX2_ask_113 hl (k := 1) rfl (ex_948.symm) (by decide) rfl (fun ls hl => ?_)
          clear ex_948
          refine lv_goto (tgt := 2) hx hb dX2_ask_116 (by decide) ?_
          exact ih_918 (x_948, f_861, f_862, x_946, f_947) H locs ls ⟨hP.sub (ws' := [(h0, .inr (2, [.ref h1, .ref h2, .ref h3, .ref h4, .ref h5, .ref h6, .int a0, .int a1])), (h1, .inl (cI, 20, .inl g0)), (h2, .inl (cI, 20, .inl g1)), (h3, .inl (cZ, 20, .inl g2)), (h4, .inl (cZ, 20, .inl g3)), (h5, .inl (cI, 20, .inl g4)), (h6, .inl (cI, 20, .inl g5)), (h7, .inr (7, [.ref h8, .ref h9, .ref h10, .ref h11, .ref h12, .ref h13, .int a2, .int a3, .int a4, .int a5, .int x_946, .int a7, .int a8, .int a9])), (h8, .inl (cI, 9, .inl f_947)), (h9, .inl (cI, 9, .inl f_861)), (h10, .inl (cI, 9, .inl f_862))]) [0, 1, 2, 3, 4, 5, 6, 9, 10, 7, 8] rfl, hD.sub (ws' := [(h0, .inr (2, [.ref h1, .ref h2, .ref h3, .ref h4, .ref h5, .ref h6, .int a0, .int a1])), (h1, .inl (cI, 20, .inl g0)), (h2, .inl (cI, 20, .inl g1)), (h3, .inl (cZ, 20, .inl g2)), (h4, .inl (cZ, 20, .inl g3)), (h5, .inl (cI, 20, .inl g4)), (h6, .inl (cI, 20, .inl g5)), (h7, .inr (7, [.ref h8, .ref h9, .ref h10, .ref h11, .ref h12, .ref h13, .int a2, .int a3, .int a4, .int a5, .int x_946, .int a7, .int a8, .int a9])), (h8, .inl (cI, 9, .inl f_947)), (h9, .inl (cI, 9, .inl f_861)), (h10, .inl (cI, 9, .inl f_862))]) [0, 1, 2, 3, 4, 5, 6, 9, 10, 7, 8] (by decide) rfl, hS, lv_sub hl [0, 2, 3, 4] rfl, (rg_mono hx_948 (by decide) (by decide)), hf_861, hf_862, (rg_mono hx_946 (by decide) (by decide)), hf_947⟩ (by show ((20) - x_948.toInt).toNat < ((20) - x_860.toInt).toNat; have ha := h_920; simp only [rg] at ha; omega)
      · skip
        refine lv_aload_n hx hb dX2_ask_30 rfl (lv_at hl 1 rfl) ?_
        refine va_get (D := (dC, dI)) (ci := 2) (v := .ref h6) (C := RX2) (T := TX2) (N := 8) hx hb hts hinX2 hown hK hP 0 rfl rfl 5 (by decide) (hts (.fieldLink RX2 28 "MayRings$Letters" "untoldAt" "[I") (List.mem_of_getElem? (i := 3) rfl)) (fun _ h9 => h9) rfl dX2_ask_31 ?_
        refine lv_iload_n hx hb dX2_ask_34 rfl (lv_at hl 0 rfl) ?_
        refine va_iald hx hb hK hP 6 1 rfl rfl (rg_in (n := 20) (rg_mono h_920 (by decide) (by decide))) dX2_ask_35 ?_
        refine tp_v (.int x_927) (congrArg Value.int (ex_927.symm)) ?_
        refine lv_iload_n hx hb dX2_ask_36 rfl (lv_at hl 3 rfl) ?_
        refine lv_icmp_le (tgt := 44) hx hb dX2_ask_37 (by decide) (fun c_949 => ?_) (fun c_949 => ?_)
        · skip
          refine lv_iconst (v := 0) hx hb dX2_ask_44 (by decide) ?_
          refine lv_istore (lv' := [(4, .int 0), (3, .int x_860), (0, .ref h0), (1, .ref h7), (2, .int p1)]) hx hb dX2_ask_45 hl (by decide) rfl (fun ls hl => ?_)
          refine lv_iload hx hb dX2_ask_47 (lv_at hl 0 rfl) ?_
          refine lv_if_eq (tgt := 86) hx hb dX2_ask_49 (by decide) (fun _ => ?_) (fun cz => absurd (by decide) cz)
          refine lv_iload hx hb dX2_ask_86 (lv_at hl 0 rfl) ?_
          refine lv_if_eq (tgt := 113) hx hb dX2_ask_88 (by decide) (fun _ => ?_) (fun cz => absurd (by decide) cz)
          obtain ⟨x_950, ex_950⟩ : ∃ y : Int32, y = x_860 + Int32.ofInt (1) := ⟨_, rfl⟩
          have hx_950 : rg (1) (20) x_950 := by rw [ex_950]; exact rg_mono (rg_add h_920 (rg_k (x := Int32.ofInt (1)) (c := 1) (by decide)) (by decide) (by decide)) (by decide) (by decide)
          have qx_950 : x_950.toInt = x_860.toInt + (1) := by rw [ex_950]; exact rg_addE h_920 (rg_k (x := Int32.ofInt (1)) (c := 1) (by decide)) (by decide) (by decide) (by decide)
          refine lv_iinc (v := x_950) (lv' := [(3, .int x_950), (4, .int 0), (0, .ref h0), (1, .ref h7), (2, .int p1)]) hx hb dX2_ask_113 hl (k := 1) rfl (ex_950.symm) (by decide) rfl (fun ls hl => ?_)
          clear ex_950
          refine lv_goto (tgt := 2) hx hb dX2_ask_116 (by decide) ?_
          exact ih_918 (x_950, f_861, f_862, x_863, f_864) H locs ls ⟨hP.sub (ws' := [(h0, .inr (2, [.ref h1, .ref h2, .ref h3, .ref h4, .ref h5, .ref h6, .int a0, .int a1])), (h1, .inl (cI, 20, .inl g0)), (h2, .inl (cI, 20, .inl g1)), (h3, .inl (cZ, 20, .inl g2)), (h4, .inl (cZ, 20, .inl g3)), (h5, .inl (cI, 20, .inl g4)), (h6, .inl (cI, 20, .inl g5)), (h7, .inr (7, [.ref h8, .ref h9, .ref h10, .ref h11, .ref h12, .ref h13, .int a2, .int a3, .int a4, .int a5, .int x_863, .int a7, .int a8, .int a9])), (h8, .inl (cI, 9, .inl f_864)), (h9, .inl (cI, 9, .inl f_861)), (h10, .inl (cI, 9, .inl f_862))]) [0, 1, 2, 3, 4, 5, 6, 7, 8, 9, 10] rfl, hD.sub (ws' := [(h0, .inr (2, [.ref h1, .ref h2, .ref h3, .ref h4, .ref h5, .ref h6, .int a0, .int a1])), (h1, .inl (cI, 20, .inl g0)), (h2, .inl (cI, 20, .inl g1)), (h3, .inl (cZ, 20, .inl g2)), (h4, .inl (cZ, 20, .inl g3)), (h5, .inl (cI, 20, .inl g4)), (h6, .inl (cI, 20, .inl g5)), (h7, .inr (7, [.ref h8, .ref h9, .ref h10, .ref h11, .ref h12, .ref h13, .int a2, .int a3, .int a4, .int a5, .int x_863, .int a7, .int a8, .int a9])), (h8, .inl (cI, 9, .inl f_864)), (h9, .inl (cI, 9, .inl f_861)), (h10, .inl (cI, 9, .inl f_862))]) [0, 1, 2, 3, 4, 5, 6, 7, 8, 9, 10] (by decide) rfl, hS, lv_sub hl [0, 2, 3, 4] rfl, (rg_mono hx_950 (by decide) (by decide)), hf_861, hf_862, (rg_mono hx_863 (by decide) (by decide)), hf_864⟩ (by show ((20) - x_950.toInt).toNat < ((20) - x_860.toInt).toNat; have ha := h_920; simp only [rg] at ha; omega)
        · skip
          have h_951 : rg (-2147483647) (2147483647) x_927 := by have ha := (rg_any x_927); have hb_ := (rg_any p1); simp only [rg, fa_lt, fa_le, fa_eq] at ha hb_ c_949; simp only [rg]; omega
          have h_952 : rg (-2147483648) (2147483646) p1 := by have ha := (rg_any x_927); have hb_ := (rg_any p1); simp only [rg, fa_lt, fa_le, fa_eq] at ha hb_ c_949; simp only [rg]; omega
          refine lv_iconst (v := 1) hx hb dX2_ask_40 (by decide) ?_
          refine lv_goto (tgt := 45) hx hb dX2_ask_41 (by decide) ?_
          refine lv_istore (lv' := [(4, .int 1), (3, .int x_860), (0, .ref h0), (1, .ref h7), (2, .int p1)]) hx hb dX2_ask_45 hl (by decide) rfl (fun ls hl => ?_)
          refine lv_iload hx hb dX2_ask_47 (lv_at hl 0 rfl) ?_
          refine lv_if_eq (tgt := 86) hx hb dX2_ask_49 (by decide) (fun cz => absurd cz (by decide)) (fun _ => ?_)
          refine lv_aload_n hx hb dX2_ask_52 rfl (lv_at hl 2 rfl) ?_
          refine va_get (D := (dC, dI)) (ci := 2) (v := .ref h3) (C := RX2) (T := TX2) (N := 8) hx hb hts hinX2 hown hK hP 0 rfl rfl 2 (by decide) (hts (.fieldLink RX2 18 "MayRings$Letters" "ofPlace" "[Z") (List.mem_of_getElem? (i := 4) rfl)) (fun _ h9 => h9) rfl dX2_ask_53 ?_
          refine lv_iload_n hx hb dX2_ask_56 rfl (lv_at hl 1 rfl) ?_
          refine va_zald hx hb hK hP 3 3 rfl rfl (rg_in (n := 20) (rg_mono h_920 (by decide) (by decide))) dX2_ask_57 ?_
          refine lv_topi (fun x_953 ex_953 => ?_)
          have hx_953 : rg (0) (1) x_953 := by rw [ex_953]; exact rg_mono (hg2 _) (by decide) (by decide)
          refine lv_if_eq (tgt := 86) hx hb dX2_ask_58 (by decide) (fun c_954 => ?_) (fun c_954 => ?_)
          · skip
            have h_955 : rg (0) (0) x_953 := by have ha := hx_953; have hb_ := (rg_k (x := 0) (c := 0) (by decide)); simp only [rg, fa_lt, fa_le, fa_eq, (by decide : (0 : Int32).toInt = 0)] at ha hb_ c_954; simp only [rg]; omega
            refine lv_iload hx hb dX2_ask_86 (lv_at hl 0 rfl) ?_
            refine lv_if_eq (tgt := 113) hx hb dX2_ask_88 (by decide) (fun cz => absurd cz (by decide)) (fun _ => ?_)
            refine lv_aload_n hx hb dX2_ask_91 rfl (lv_at hl 3 rfl) ?_
            refine lv_aload_n hx hb dX2_ask_92 rfl (lv_at hl 2 rfl) ?_
            refine va_get (D := (dC, dI)) (ci := 2) (v := .ref h1) (C := RX2) (T := TX2) (N := 8) hx hb hts hinX2 hown hK hP 0 rfl rfl 0 (by decide) (hts (.fieldLink RX2 11 "MayRings$Letters" "house" "[I") (List.mem_of_getElem? (i := 5) rfl)) (fun _ h9 => h9) rfl dX2_ask_93 ?_
            refine lv_iload_n hx hb dX2_ask_96 rfl (lv_at hl 1 rfl) ?_
            refine va_iald hx hb hK hP 1 1 rfl rfl (rg_in (n := 20) (rg_mono h_920 (by decide) (by decide))) dX2_ask_97 ?_
            refine lv_topi (fun x_956 ex_956 => ?_)
            have hx_956 : rg (0) (8) x_956 := by rw [ex_956]; exact rg_mono (hg0 _) (by decide) (by decide)
            refine lv_aload_n hx hb dX2_ask_98 rfl (lv_at hl 2 rfl) ?_
            refine va_get (D := (dC, dI)) (ci := 2) (v := .ref h2) (C := RX2) (T := TX2) (N := 8) hx hb hts hinX2 hown hK hP 0 rfl rfl 1 (by decide) (hts (.fieldLink RX2 15 "MayRings$Letters" "where" "[I") (List.mem_of_getElem? (i := 6) rfl)) (fun _ h9 => h9) rfl dX2_ask_99 ?_
            refine lv_iload_n hx hb dX2_ask_102 rfl (lv_at hl 1 rfl) ?_
            refine va_iald hx hb hK hP 2 1 rfl rfl (rg_in (n := 20) (rg_mono h_920 (by decide) (by decide))) dX2_ask_103 ?_
            refine lv_topi (fun x_957 ex_957 => ?_)
            have hx_957 : rg (0) (8) x_957 := by rw [ex_957]; exact rg_mono (hg1 _) (by decide) (by decide)
            refine lv_aload_n hx hb dX2_ask_104 rfl (lv_at hl 2 rfl) ?_
            refine va_get (D := (dC, dI)) (ci := 2) (v := .ref h4) (C := RX2) (T := TX2) (N := 8) hx hb hts hinX2 hown hK hP 0 rfl rfl 3 (by decide) (hts (.fieldLink RX2 22 "MayRings$Letters" "isSo" "[Z") (List.mem_of_getElem? (i := 7) rfl)) (fun _ h9 => h9) rfl dX2_ask_105 ?_
            refine lv_iload_n hx hb dX2_ask_108 rfl (lv_at hl 1 rfl) ?_
            refine va_zald hx hb hK hP 4 3 rfl rfl (rg_in (n := 20) (rg_mono h_920 (by decide) (by decide))) dX2_ask_109 ?_
            refine lv_topi (fun x_958 ex_958 => ?_)
            have hx_958 : rg (0) (1) x_958 := by rw [ex_958]; exact rg_mono (hg3 _) (by decide) (by decide)
            have hPc := hP.sub (ws' := [(h7, .inr (7, [.ref h8, .ref h9, .ref h10, .ref h11, .ref h12, .ref h13, .int a2, .int a3, .int a4, .int a5, .int x_863, .int a7, .int a8, .int a9])), (h9, .inl (cI, 9, .inl f_861)), (h10, .inl (cI, 9, .inl f_862))]) [7, 9, 10] rfl
            have hDc := hD.sub (ws' := [(h7, .inr (7, [.ref h8, .ref h9, .ref h10, .ref h11, .ref h12, .ref h13, .int a2, .int a3, .int a4, .int a5, .int x_863, .int a7, .int a8, .int a9])), (h9, .inl (cI, 9, .inl f_861)), (h10, .inl (cI, 9, .inl f_862))]) [7, 9, 10] (by decide) rfl
            have hFc := va_free (wc := [(h7, .inr (7, [.ref h8, .ref h9, .ref h10, .ref h11, .ref h12, .ref h13, .int a2, .int a3, .int a4, .int a5, .int x_863, .int a7, .int a8, .int a9])), (h9, .inl (cI, 9, .inl f_861)), (h10, .inl (cI, 9, .inl f_862))]) hD hS hA [7, 9, 10] rfl
            refine va_callv (va_runV (As := [.int x_956, .int x_957, .int x_958]) (rest := []) ⟨hx, hb, hml, hown, hts⟩ (c_s_X7_heedPair l dC dI cB cI cJ cZ cP h7 h8 h9 f_861 hf_861 h10 f_862 hf_862 h11 h12 h13 a2 (rg_mono ha2 (by decide) (by decide)) a3 a4 a5 x_863 (rg_mono hx_863 (by decide) (by decide)) a7 a8 a9 x_956 (rg_mono hx_956 (by decide) (by decide)) x_957 (rg_mono hx_957 (by decide) (by decide)) x_958 (rg_mono hx_958 (by decide) (by decide)) H.size) (cwV 3 hts (gd_V (List.mem_of_getElem? (i := 8) rfl) (List.mem_of_getElem? (i := 9) rfl) (List.mem_of_getElem? (i := 10) rfl) (List.mem_of_getElem? (i := 11) rfl) (gd_mono k_s_X7_heedPair (fun _ h => List.mem_cons_of_mem _ (List.mem_append_right _ (List.mem_append_right _ (List.mem_append_left _ h)))))) rfl rfl rfl (by decide +kernel) ⟨Nat.le_of_ble_eq_true rfl, Nat.le_of_ble_eq_true rfl⟩) ⟨fun a U g mk q => by obtain ⟨q0, q1, qP, qK, qD⟩ := q; exact ⟨q0, q1, qP, va_K.moved (u := U) (U := U.calling g mk a) (Vm.Alike.refl U.vm) qK, qD⟩, va_recv hK hPc (ci := 7) (q0 := 0) rfl rfl, fun U hU hW => ⟨rfl, by rw [hU], by rw [hU]; exact hPc, va_K.moved hW.alike hK, hDc.weaken (fun _ _ _ _ => trivial)⟩⟩ rfl rfl hl.1 rfl (lv_room (Nat.le_of_ble_eq_true rfl)) dX2_ask_110 ⟨Nat.le_of_ble_eq_true rfl, Nat.le_of_ble_eq_true rfl⟩) hS (fun q _ h => hFc q h) hFc (fun u t H1 locs ht hvm hw hB hz1 hk1 hS => ?_)
            obtain ⟨x_960, f_961, f_962, hx_960, hf_961, hf_962, hP1, hD1⟩ := hB
            rw [ht] at hP1
            obtain ⟨hP, hD⟩ := va_join (wr := [(h0, .inr (2, [.ref h1, .ref h2, .ref h3, .ref h4, .ref h5, .ref h6, .int a0, .int a1])), (h1, .inl (cI, 20, .inl g0)), (h2, .inl (cI, 20, .inl g1)), (h3, .inl (cZ, 20, .inl g2)), (h4, .inl (cZ, 20, .inl g3)), (h5, .inl (cI, 20, .inl g4)), (h6, .inl (cI, 20, .inl g5)), (h8, .inl (cI, 9, .inl f_864))]) (w1 := [(h7, .inr (7, [.ref h8, .ref h9, .ref h10, .ref h11, .ref h12, .ref h13, .int a2, .int a3, .int a4, .int a5, .int x_960, .int a7, .int a8, .int a9])), (h9, .inl (cI, 9, .inl f_961)), (h10, .inl (cI, 9, .inl f_962))]) hP hD [7, 9, 10] [0, 1, 2, 3, 4, 5, 6, 8] rfl rfl (by decide) (by decide) hk1 hFc hP1 hD1
            generalize H1 = H at hP hS ⊢
            replace hP : va_P (dC, dI) vwCl [(h0, .inr (2, [.ref h1, .ref h2, .ref h3, .ref h4, .ref h5, .ref h6, .int a0, .int a1])), (h1, .inl (cI, 20, .inl g0)), (h2, .inl (cI, 20, .inl g1)), (h3, .inl (cZ, 20, .inl g2)), (h4, .inl (cZ, 20, .inl g3)), (h5, .inl (cI, 20, .inl g4)), (h6, .inl (cI, 20, .inl g5)), (h8, .inl (cI, 9, .inl f_864)), (h7, .inr (7, [.ref h8, .ref h9, .ref h10, .ref h11, .ref h12, .ref h13, .int a2, .int a3, .int a4, .int a5, .int x_960, .int a7, .int a8, .int a9])), (h9, .inl (cI, 9, .inl f_961)), (h10, .inl (cI, 9, .inl f_962))] H := hP
            replace hD : va_D A [(h0, .inr (2, [.ref h1, .ref h2, .ref h3, .ref h4, .ref h5, .ref h6, .int a0, .int a1])), (h1, .inl (cI, 20, .inl g0)), (h2, .inl (cI, 20, .inl g1)), (h3, .inl (cZ, 20, .inl g2)), (h4, .inl (cZ, 20, .inl g3)), (h5, .inl (cI, 20, .inl g4)), (h6, .inl (cI, 20, .inl g5)), (h8, .inl (cI, 9, .inl f_864)), (h7, .inr (7, [.ref h8, .ref h9, .ref h10, .ref h11, .ref h12, .ref h13, .int a2, .int a3, .int a4, .int a5, .int x_960, .int a7, .int a8, .int a9])), (h9, .inl (cI, 9, .inl f_961)), (h10, .inl (cI, 9, .inl f_962))] := hD
            obtain ⟨x_963, ex_963⟩ : ∃ y : Int32, y = x_860 + Int32.ofInt (1) := ⟨_, rfl⟩
            have hx_963 : rg (1) (20) x_963 := by rw [ex_963]; exact rg_mono (rg_add h_920 (rg_k (x := Int32.ofInt (1)) (c := 1) (by decide)) (by decide) (by decide)) (by decide) (by decide)
            have qx_963 : x_963.toInt = x_860.toInt + (1) := by rw [ex_963]; exact rg_addE h_920 (rg_k (x := Int32.ofInt (1)) (c := 1) (by decide)) (by decide) (by decide) (by decide)
            refine lv_iinc (v := x_963) (lv' := [(3, .int x_963), (4, .int 1), (0, .ref h0), (1, .ref h7), (2, .int p1)]) hx hb dX2_ask_113 hl (k := 1) rfl (ex_963.symm) (by decide) rfl (fun ls hl => ?_)
            clear ex_963
            refine lv_goto (tgt := 2) hx hb dX2_ask_116 (by decide) ?_
            exact ih_918 (x_963, f_961, f_962, x_960, f_864) H locs ls ⟨hP.sub (ws' := [(h0, .inr (2, [.ref h1, .ref h2, .ref h3, .ref h4, .ref h5, .ref h6, .int a0, .int a1])), (h1, .inl (cI, 20, .inl g0)), (h2, .inl (cI, 20, .inl g1)), (h3, .inl (cZ, 20, .inl g2)), (h4, .inl (cZ, 20, .inl g3)), (h5, .inl (cI, 20, .inl g4)), (h6, .inl (cI, 20, .inl g5)), (h7, .inr (7, [.ref h8, .ref h9, .ref h10, .ref h11, .ref h12, .ref h13, .int a2, .int a3, .int a4, .int a5, .int x_960, .int a7, .int a8, .int a9])), (h8, .inl (cI, 9, .inl f_864)), (h9, .inl (cI, 9, .inl f_961)), (h10, .inl (cI, 9, .inl f_962))]) [0, 1, 2, 3, 4, 5, 6, 8, 7, 9, 10] rfl, hD.sub (ws' := [(h0, .inr (2, [.ref h1, .ref h2, .ref h3, .ref h4, .ref h5, .ref h6, .int a0, .int a1])), (h1, .inl (cI, 20, .inl g0)), (h2, .inl (cI, 20, .inl g1)), (h3, .inl (cZ, 20, .inl g2)), (h4, .inl (cZ, 20, .inl g3)), (h5, .inl (cI, 20, .inl g4)), (h6, .inl (cI, 20, .inl g5)), (h7, .inr (7, [.ref h8, .ref h9, .ref h10, .ref h11, .ref h12, .ref h13, .int a2, .int a3, .int a4, .int a5, .int x_960, .int a7, .int a8, .int a9])), (h8, .inl (cI, 9, .inl f_864)), (h9, .inl (cI, 9, .inl f_961)), (h10, .inl (cI, 9, .inl f_962))]) [0, 1, 2, 3, 4, 5, 6, 8, 7, 9, 10] (by decide) rfl, hS, lv_sub hl [0, 2, 3, 4] rfl, (rg_mono hx_963 (by decide) (by decide)), hf_961, hf_962, (rg_mono hx_960 (by decide) (by decide)), hf_864⟩ (by show ((20) - x_963.toInt).toNat < ((20) - x_860.toInt).toNat; have ha := h_920; simp only [rg] at ha; omega)
          · skip
            have h_964 : rg (1) (1) x_953 := by have ha := hx_953; have hb_ := (rg_k (x := 0) (c := 0) (by decide)); simp only [rg, fa_lt, fa_le, fa_eq, (by decide : (0 : Int32).toInt = 0)] at ha hb_ c_954; simp only [rg]; omega
            refine lv_aload_n hx hb dX2_ask_61 rfl (lv_at hl 3 rfl) ?_
            refine lv_aload_n hx hb dX2_ask_62 rfl (lv_at hl 2 rfl) ?_
            refine va_get (D := (dC, dI)) (ci := 2) (v := .ref h1) (C := RX2) (T := TX2) (N := 8) hx hb hts hinX2 hown hK hP 0 rfl rfl 0 (by decide) (hts (.fieldLink RX2 11 "MayRings$Letters" "house" "[I") (List.mem_of_getElem? (i := 5) rfl)) (fun _ h9 => h9) rfl dX2_ask_63 ?_
            refine lv_iload_n hx hb dX2_ask_66 rfl (lv_at hl 1 rfl) ?_
            refine va_iald hx hb hK hP 1 1 rfl rfl (rg_in (n := 20) (rg_mono h_920 (by decide) (by decide))) dX2_ask_67 ?_
            refine lv_topi (fun x_965 ex_965 => ?_)
            have hx_965 : rg (0) (8) x_965 := by rw [ex_965]; exact rg_mono (hg0 _) (by decide) (by decide)
            refine lv_aload_n hx hb dX2_ask_68 rfl (lv_at hl 2 rfl) ?_
            refine va_get (D := (dC, dI)) (ci := 2) (v := .ref h2) (C := RX2) (T := TX2) (N := 8) hx hb hts hinX2 hown hK hP 0 rfl rfl 1 (by decide) (hts (.fieldLink RX2 15 "MayRings$Letters" "where" "[I") (List.mem_of_getElem? (i := 6) rfl)) (fun _ h9 => h9) rfl dX2_ask_69 ?_
            refine lv_iload_n hx hb dX2_ask_72 rfl (lv_at hl 1 rfl) ?_
            refine va_iald hx hb hK hP 2 1 rfl rfl (rg_in (n := 20) (rg_mono h_920 (by decide) (by decide))) dX2_ask_73 ?_
            refine lv_topi (fun x_966 ex_966 => ?_)
            have hx_966 : rg (0) (8) x_966 := by rw [ex_966]; exact rg_mono (hg1 _) (by decide) (by decide)
            refine lv_aload_n hx hb dX2_ask_74 rfl (lv_at hl 2 rfl) ?_
            refine va_get (D := (dC, dI)) (ci := 2) (v := .ref h4) (C := RX2) (T := TX2) (N := 8) hx hb hts hinX2 hown hK hP 0 rfl rfl 3 (by decide) (hts (.fieldLink RX2 22 "MayRings$Letters" "isSo" "[Z") (List.mem_of_getElem? (i := 7) rfl)) (fun _ h9 => h9) rfl dX2_ask_75 ?_
            refine lv_iload_n hx hb dX2_ask_78 rfl (lv_at hl 1 rfl) ?_
            refine va_zald hx hb hK hP 4 3 rfl rfl (rg_in (n := 20) (rg_mono h_920 (by decide) (by decide))) dX2_ask_79 ?_
            refine lv_topi (fun x_967 ex_967 => ?_)
            have hx_967 : rg (0) (1) x_967 := by rw [ex_967]; exact rg_mono (hg3 _) (by decide) (by decide)
            have hPc := hP.sub (ws' := [(h7, .inr (7, [.ref h8, .ref h9, .ref h10, .ref h11, .ref h12, .ref h13, .int a2, .int a3, .int a4, .int a5, .int x_863, .int a7, .int a8, .int a9])), (h8, .inl (cI, 9, .inl f_864))]) [7, 8] rfl
            have hDc := hD.sub (ws' := [(h7, .inr (7, [.ref h8, .ref h9, .ref h10, .ref h11, .ref h12, .ref h13, .int a2, .int a3, .int a4, .int a5, .int x_863, .int a7, .int a8, .int a9])), (h8, .inl (cI, 9, .inl f_864))]) [7, 8] (by decide) rfl
            have hFc := va_free (wc := [(h7, .inr (7, [.ref h8, .ref h9, .ref h10, .ref h11, .ref h12, .ref h13, .int a2, .int a3, .int a4, .int a5, .int x_863, .int a7, .int a8, .int a9])), (h8, .inl (cI, 9, .inl f_864))]) hD hS hA [7, 8] rfl
            refine va_callv (va_runV (As := [.int x_965, .int x_966, .int x_967]) (rest := []) ⟨hx, hb, hml, hown, hts⟩ (c_s_X7_heedPlace l dC dI cB cI cJ cZ cP h7 h8 f_864 hf_864 h9 h10 h11 h12 h13 a2 (rg_mono ha2 (by decide) (by decide)) a3 (rg_mono ha3 (by decide) (by decide)) a4 a5 x_863 (rg_mono hx_863 (by decide) (by decide)) a7 a8 a9 x_965 (rg_mono hx_965 (by decide) (by decide)) x_966 (rg_mono hx_966 (by decide) (by decide)) x_967 (rg_mono hx_967 (by decide) (by decide)) H.size) (cwV 3 hts (gd_V (List.mem_of_getElem? (i := 12) rfl) (List.mem_of_getElem? (i := 13) rfl) (List.mem_of_getElem? (i := 14) rfl) (List.mem_of_getElem? (i := 11) rfl) (gd_mono k_s_X7_heedPlace (fun _ h => List.mem_cons_of_mem _ (List.mem_append_right _ (List.mem_append_right _ (List.mem_append_right _ (List.mem_append_left _ h))))))) rfl rfl rfl (by decide +kernel) ⟨Nat.le_of_ble_eq_true rfl, Nat.le_of_ble_eq_true rfl⟩) ⟨fun a U g mk q => by obtain ⟨q0, q1, qP, qK, qD⟩ := q; exact ⟨q0, q1, qP, va_K.moved (u := U) (U := U.calling g mk a) (Vm.Alike.refl U.vm) qK, qD⟩, va_recv hK hPc (ci := 7) (q0 := 0) rfl rfl, fun U hU hW => ⟨rfl, by rw [hU], by rw [hU]; exact hPc, va_K.moved hW.alike hK, hDc.weaken (fun _ _ _ _ => trivial)⟩⟩ rfl rfl hl.1 rfl (lv_room (Nat.le_of_ble_eq_true rfl)) dX2_ask_80 ⟨Nat.le_of_ble_eq_true rfl, Nat.le_of_ble_eq_true rfl⟩) hS (fun q _ h => hFc q h) hFc (fun u t H1 locs ht hvm hw hB hz1 hk1 hS => ?_)
            obtain ⟨x_969, f_970, hx_969, hf_970, hP1, hD1⟩ := hB
            rw [ht] at hP1
            obtain ⟨hP, hD⟩ := va_join (wr := [(h0, .inr (2, [.ref h1, .ref h2, .ref h3, .ref h4, .ref h5, .ref h6, .int a0, .int a1])), (h1, .inl (cI, 20, .inl g0)), (h2, .inl (cI, 20, .inl g1)), (h3, .inl (cZ, 20, .inl g2)), (h4, .inl (cZ, 20, .inl g3)), (h5, .inl (cI, 20, .inl g4)), (h6, .inl (cI, 20, .inl g5)), (h9, .inl (cI, 9, .inl f_861)), (h10, .inl (cI, 9, .inl f_862))]) (w1 := [(h7, .inr (7, [.ref h8, .ref h9, .ref h10, .ref h11, .ref h12, .ref h13, .int a2, .int a3, .int a4, .int a5, .int x_969, .int a7, .int a8, .int a9])), (h8, .inl (cI, 9, .inl f_970))]) hP hD [7, 8] [0, 1, 2, 3, 4, 5, 6, 9, 10] rfl rfl (by decide) (by decide) hk1 hFc hP1 hD1
            generalize H1 = H at hP hS ⊢
            replace hP : va_P (dC, dI) vwCl [(h0, .inr (2, [.ref h1, .ref h2, .ref h3, .ref h4, .ref h5, .ref h6, .int a0, .int a1])), (h1, .inl (cI, 20, .inl g0)), (h2, .inl (cI, 20, .inl g1)), (h3, .inl (cZ, 20, .inl g2)), (h4, .inl (cZ, 20, .inl g3)), (h5, .inl (cI, 20, .inl g4)), (h6, .inl (cI, 20, .inl g5)), (h9, .inl (cI, 9, .inl f_861)), (h10, .inl (cI, 9, .inl f_862)), (h7, .inr (7, [.ref h8, .ref h9, .ref h10, .ref h11, .ref h12, .ref h13, .int a2, .int a3, .int a4, .int a5, .int x_969, .int a7, .int a8, .int a9])), (h8, .inl (cI, 9, .inl f_970))] H := hP
            replace hD : va_D A [(h0, .inr (2, [.ref h1, .ref h2, .ref h3, .ref h4, .ref h5, .ref h6, .int a0, .int a1])), (h1, .inl (cI, 20, .inl g0)), (h2, .inl (cI, 20, .inl g1)), (h3, .inl (cZ, 20, .inl g2)), (h4, .inl (cZ, 20, .inl g3)), (h5, .inl (cI, 20, .inl g4)), (h6, .inl (cI, 20, .inl g5)), (h9, .inl (cI, 9, .inl f_861)), (h10, .inl (cI, 9, .inl f_862)), (h7, .inr (7, [.ref h8, .ref h9, .ref h10, .ref h11, .ref h12, .ref h13, .int a2, .int a3, .int a4, .int a5, .int x_969, .int a7, .int a8, .int a9])), (h8, .inl (cI, 9, .inl f_970))] := hD
            refine lv_goto (tgt := 113) hx hb dX2_ask_83 (by decide) ?_
            obtain ⟨x_971, ex_971⟩ : ∃ y : Int32, y = x_860 + Int32.ofInt (1) := ⟨_, rfl⟩
            have hx_971 : rg (1) (20) x_971 := by rw [ex_971]; exact rg_mono (rg_add h_920 (rg_k (x := Int32.ofInt (1)) (c := 1) (by decide)) (by decide) (by decide)) (by decide) (by decide)
            have qx_971 : x_971.toInt = x_860.toInt + (1) := by rw [ex_971]; exact rg_addE h_920 (rg_k (x := Int32.ofInt (1)) (c := 1) (by decide)) (by decide) (by decide) (by decide)
            refine lv_iinc (v := x_971) (lv' := [(3, .int x_971), (4, .int 1), (0, .ref h0), (1, .ref h7), (2, .int p1)]) hx hb dX2_ask_113 hl (k := 1) rfl (ex_971.symm) (by decide) rfl (fun ls hl => ?_)
            clear ex_971
            refine lv_goto (tgt := 2) hx hb dX2_ask_116 (by decide) ?_
            exact ih_918 (x_971, f_861, f_862, x_969, f_970) H locs ls ⟨hP.sub (ws' := [(h0, .inr (2, [.ref h1, .ref h2, .ref h3, .ref h4, .ref h5, .ref h6, .int a0, .int a1])), (h1, .inl (cI, 20, .inl g0)), (h2, .inl (cI, 20, .inl g1)), (h3, .inl (cZ, 20, .inl g2)), (h4, .inl (cZ, 20, .inl g3)), (h5, .inl (cI, 20, .inl g4)), (h6, .inl (cI, 20, .inl g5)), (h7, .inr (7, [.ref h8, .ref h9, .ref h10, .ref h11, .ref h12, .ref h13, .int a2, .int a3, .int a4, .int a5, .int x_969, .int a7, .int a8, .int a9])), (h8, .inl (cI, 9, .inl f_970)), (h9, .inl (cI, 9, .inl f_861)), (h10, .inl (cI, 9, .inl f_862))]) [0, 1, 2, 3, 4, 5, 6, 9, 10, 7, 8] rfl, hD.sub (ws' := [(h0, .inr (2, [.ref h1, .ref h2, .ref h3, .ref h4, .ref h5, .ref h6, .int a0, .int a1])), (h1, .inl (cI, 20, .inl g0)), (h2, .inl (cI, 20, .inl g1)), (h3, .inl (cZ, 20, .inl g2)), (h4, .inl (cZ, 20, .inl g3)), (h5, .inl (cI, 20, .inl g4)), (h6, .inl (cI, 20, .inl g5)), (h7, .inr (7, [.ref h8, .ref h9, .ref h10, .ref h11, .ref h12, .ref h13, .int a2, .int a3, .int a4, .int a5, .int x_969, .int a7, .int a8, .int a9])), (h8, .inl (cI, 9, .inl f_970)), (h9, .inl (cI, 9, .inl f_861)), (h10, .inl (cI, 9, .inl f_862))]) [0, 1, 2, 3, 4, 5, 6, 9, 10, 7, 8] (by decide) rfl, hS, lv_sub hl [0, 2, 3, 4] rfl, (rg_mono hx_971 (by decide) (by decide)), hf_861, hf_862, (rg_mono hx_969 (by decide) (by decide)), hf_970⟩ (by show ((20) - x_971.toInt).toNat < ((20) - x_860.toInt).toNat; have ha := h_920; simp only [rg] at ha; omega)
def v_s_X2_drop : List Cond := Cond.code yX2_drop cX2_drop 2 (some .boolean) :: ([Cond.fieldLink RX2 31 "MayRings$Letters" "count" "I", Cond.fieldLink RX2 28 "MayRings$Letters" "untoldAt" "[I", Cond.fieldLink RX2 35 "MayRings$Letters" "time" "I"] ++ (wsX20 ++ ([])))
theorem k_s_X2_drop : GoodIn lw_tbl v_s_X2_drop := gd_c (List.mem_of_getElem? (i := 1165) (by decide +kernel)) rfl (goodIn_app (gd_c (List.mem_of_getElem? (i := 410) (by decide +kernel)) rfl (gd_c (List.mem_of_getElem? (i := 409) (by decide +kernel)) rfl (gd_c (List.mem_of_getElem? (i := 412) (by decide +kernel)) rfl (gd_nil)))) (goodIn_app kfX2 (gd_nil)))
set_option maxHeartbeats 2000000 in
set_option maxRecDepth 100000 in
theorem c_s_X2_drop (l : Launch) (dC : Nat → ClassId) (dI : Nat → Nat → Nat) (cB cI cJ cZ cP : ClassId) (h0 : Nat) (h1 : Nat) (h2 : Nat) (h3 : Nat) (h4 : Nat) (h5 : Nat) (h6 : Nat) (g5 : Nat → Int32) (a0 : Int32) (ha0 : rg (0) (20) a0) (a1 : Int32) (p0 : Int32) (sz : Nat) : Met l yX2_drop v_s_X2_drop ({ frames := 0, cells := 0, slots := 0, locals := 0 }) (va_Pc [.ref h0, .int p0] (fun U => U.heap.size = sz ∧ va_P (dC, dI) vwCl [(h0, .inr (2, [.ref h1, .ref h2, .ref h3, .ref h4, .ref h5, .ref h6, .int a0, .int a1])), (h6, .inl (cI, 20, .inl g5))] U.heap ∧ va_K (dC, dI) vwCl (ty5 cB cI cJ cZ cP) U ∧ va_D (fun _ => True) [(h0, .inr (2, [.ref h1, .ref h2, .ref h3, .ref h4, .ref h5, .ref h6, .int a0, .int a1])), (h6, .inl (cI, 20, .inl g5))])) (va_Qi (fun (r : Int32) (u9 : Unit) => rg (0) (1) r) (fun u9 t => ∃ (z0 : Nat → Int32), va_P (dC, dI) vwCl [(h0, .inr (2, [.ref h1, .ref h2, .ref h3, .ref h4, .ref h5, .ref h6, .int a0, .int a1])), (h6, .inl (cI, 20, .inl z0))] t.heap ∧ va_D (va_A [(h0, .inr (2, [.ref h1, .ref h2, .ref h3, .ref h4, .ref h5, .ref h6, .int a0, .int a1])), (h6, .inl (cI, 20, .inl g5))] sz) [(h0, .inr (2, [.ref h1, .ref h2, .ref h3, .ref h4, .ref h5, .ref h6, .int a0, .int a1])), (h6, .inl (cI, 20, .inl z0))]) (va_A [(h0, .inr (2, [.ref h1, .ref h2, .ref h3, .ref h4, .ref h5, .ref h6, .int a0, .int a1])), (h6, .inl (cI, 20, .inl g5))] sz)) 0 0 (va_A [(h0, .inr (2, [.ref h1, .ref h2, .ref h3, .ref h4, .ref h5, .ref h6, .int a0, .int a1])), (h6, .inl (cI, 20, .inl g5))] sz) := by
  refine Met.ofW (cc := cX2_drop) (maxL := 2) (ret := (some .boolean)) (by decide) rfl ?_
  intro p e s m args below meth c s₁ B hml hv
  obtain ⟨rfl, hsz, hP, hK, hD0⟩ := hv
  have hx := B.exec
  have hb := B.bytes
  have hr := B.returns
  have hts := atoms_spec (ws := v_s_X2_drop) B.pre
  have hown : s.vm.findClass RX2 = some m.cls := findClass_of_methodNamed B.named
  have hlocks := B.notSynchronized
  have hinX2 : ∀ w ∈ wsX20, w ∈ v_s_X2_drop := fun _ h => List.mem_cons_of_mem _ (List.mem_append_right _ (List.mem_append_left _ h))
  subst hsz
  have hD := hD0.self (sz := s.heap.size)
  generalize hAe : va_A [(h0, .inr (2, [.ref h1, .ref h2, .ref h3, .ref h4, .ref h5, .ref h6, .int a0, .int a1])), (h6, .inl (cI, 20, .inl g5))] s.heap.size = A at hD ⊢
  have hA : ∀ q : Nat, s.heap.size ≤ q → A q := fun q h => by rw [← hAe]; exact Or.inr h
  have hP : va_P (dC, dI) vwCl [(h0, .inr (2, [.ref h1, .ref h2, .ref h3, .ref h4, .ref h5, .ref h6, .int a0, .int a1])), (h6, .inl (cI, 20, .inl g5))] s.heap := hP
  have hl := lv_entry ([.ref h0, .int p0]) (n := 2) (Nat.le_of_ble_eq_true rfl)
  rw [lg_entry_eq]
  generalize (lg_sl ([.ref h0, .int p0]) ++ List.replicate (2 - (lg_sl ([.ref h0, .int p0])).length) Slot.unset).toArray = ls at hl ⊢
  have hl : lv_has ls 2 [(0, .ref h0), (1, .int p0)] := hl
  refine W_gen (A := A) hP (fun H locs hP hS => ?_)
  refine lv_iload_n hx hb dX2_drop_0 rfl (lv_at hl 1 rfl) ?_
  refine lv_if_lt (tgt := 22) hx hb dX2_drop_1 (by decide) (fun c_1 => ?_) (fun c_1 => ?_)
  · skip
    have h_2 : rg (-2147483648) (-1) p0 := by have ha := (rg_any p0); have hb_ := (rg_k (x := 0) (c := 0) (by decide)); simp only [rg, fa_lt, fa_le, fa_eq, (by decide : (0 : Int32).toInt = 0)] at ha hb_ c_1; simp only [rg]; omega
    refine lv_iconst (v := 0) hx hb dX2_drop_22 (by decide) ?_
    have hP9 := hP.sub (ws' := [(h0, .inr (2, [.ref h1, .ref h2, .ref h3, .ref h4, .ref h5, .ref h6, .int a0, .int a1])), (h6, .inl (cI, 20, .inl g5))]) [0, 1] rfl
    have hD9 := hD.sub (ws' := [(h0, .inr (2, [.ref h1, .ref h2, .ref h3, .ref h4, .ref h5, .ref h6, .int a0, .int a1])), (h6, .inl (cI, 20, .inl g5))]) [0, 1] (by decide) rfl
    exact W.zret (v := 0) hx hb hr (rfl) (fun t ht hW => ⟨⟨0, (), rfl, (rg_mono (rg_k (x := 0) (c := 0) (by decide)) (by decide) (by decide)), ⟨g5, by rw [ht]; exact hP9, hD9⟩⟩, hS.F ht⟩) hS.2.2 dX2_drop_23
  · skip
    have h_3 : rg (0) (2147483647) p0 := by have ha := (rg_any p0); have hb_ := (rg_k (x := 0) (c := 0) (by decide)); simp only [rg, fa_lt, fa_le, fa_eq, (by decide : (0 : Int32).toInt = 0)] at ha hb_ c_1; simp only [rg]; omega
    refine lv_iload_n hx hb dX2_drop_4 rfl (lv_at hl 1 rfl) ?_
    refine lv_aload_n hx hb dX2_drop_5 rfl (lv_at hl 0 rfl) ?_
    refine va_get (D := (dC, dI)) (ci := 2) (v := .int a0) (C := RX2) (T := TX2) (N := 8) hx hb hts hinX2 hown hK hP 0 rfl rfl 6 (by decide) (hts (.fieldLink RX2 31 "MayRings$Letters" "count" "I") (List.mem_of_getElem? (i := 1) rfl)) (fun _ h9 => h9) rfl dX2_drop_6 ?_
    refine lv_icmp_ge (tgt := 22) hx hb dX2_drop_9 (by decide) (fun c_4 => ?_) (fun c_4 => ?_)
    · skip
      refine lv_iconst (v := 0) hx hb dX2_drop_22 (by decide) ?_
      have hP9 := hP.sub (ws' := [(h0, .inr (2, [.ref h1, .ref h2, .ref h3, .ref h4, .ref h5, .ref h6, .int a0, .int a1])), (h6, .inl (cI, 20, .inl g5))]) [0, 1] rfl
      have hD9 := hD.sub (ws' := [(h0, .inr (2, [.ref h1, .ref h2, .ref h3, .ref h4, .ref h5, .ref h6, .int a0, .int a1])), (h6, .inl (cI, 20, .inl g5))]) [0, 1] (by decide) rfl
      exact W.zret (v := 0) hx hb hr (rfl) (fun t ht hW => ⟨⟨0, (), rfl, (rg_mono (rg_k (x := 0) (c := 0) (by decide)) (by decide) (by decide)), ⟨g5, by rw [ht]; exact hP9, hD9⟩⟩, hS.F ht⟩) hS.2.2 dX2_drop_23
    · skip
      have h_5 : rg (0) (19) p0 := by have ha := h_3; have hb_ := ha0; simp only [rg, fa_lt, fa_le, fa_eq] at ha hb_ c_4; simp only [rg]; omega
      have h_6 : rg (1) (20) a0 := by have ha := h_3; have hb_ := ha0; simp only [rg, fa_lt, fa_le, fa_eq] at ha hb_ c_4; simp only [rg]; omega
      refine lv_aload_n hx hb dX2_drop_12 rfl (lv_at hl 0 rfl) ?_
      refine va_get (D := (dC, dI)) (ci := 2) (v := .ref h6) (C := RX2) (T := TX2) (N := 8) hx hb hts hinX2 hown hK hP 0 rfl rfl 5 (by decide) (hts (.fieldLink RX2 28 "MayRings$Letters" "untoldAt" "[I") (List.mem_of_getElem? (i := 2) rfl)) (fun _ h9 => h9) rfl dX2_drop_13 ?_
      refine lv_iload_n hx hb dX2_drop_16 rfl (lv_at hl 1 rfl) ?_
      refine va_iald hx hb hK hP 1 1 rfl rfl (rg_in (n := 20) (rg_mono h_5 (by decide) (by decide))) dX2_drop_17 ?_
      refine lv_topi (fun x_7 ex_7 => ?_)
      refine lv_iconst (v := (-1)) hx hb dX2_drop_18 (by decide) ?_
      refine lv_icmp_eq (tgt := 24) hx hb dX2_drop_19 (by decide) (fun c_8 => ?_) (fun c_8 => ?_)
      · skip
        have h_9 : rg (-1) (-1) x_7 := by have ha := (rg_any x_7); have hb_ := (rg_k (x := (-1)) (c := -1) (by decide)); simp only [rg, fa_lt, fa_le, fa_eq, (by decide : ((-1) : Int32).toInt = -1)] at ha hb_ c_8; simp only [rg]; omega
        refine lv_aload_n hx hb dX2_drop_24 rfl (lv_at hl 0 rfl) ?_
        refine va_get (D := (dC, dI)) (ci := 2) (v := .ref h6) (C := RX2) (T := TX2) (N := 8) hx hb hts hinX2 hown hK hP 0 rfl rfl 5 (by decide) (hts (.fieldLink RX2 28 "MayRings$Letters" "untoldAt" "[I") (List.mem_of_getElem? (i := 2) rfl)) (fun _ h9 => h9) rfl dX2_drop_25 ?_
        refine lv_iload_n hx hb dX2_drop_28 rfl (lv_at hl 1 rfl) ?_
        refine lv_aload_n hx hb dX2_drop_29 rfl (lv_at hl 0 rfl) ?_
        refine va_get (D := (dC, dI)) (ci := 2) (v := .int a1) (C := RX2) (T := TX2) (N := 8) hx hb hts hinX2 hown hK hP 0 rfl rfl 7 (by decide) (hts (.fieldLink RX2 35 "MayRings$Letters" "time" "I") (List.mem_of_getElem? (i := 3) rfl)) (fun _ h9 => h9) rfl dX2_drop_30 ?_
        refine va_iast hx hb hK hP hD hS 1 1 rfl rfl (rg_in (n := 20) (rg_mono h_5 (by decide) (by decide))) dX2_drop_33 (fun H locs hP hD hS => ?_)
        obtain ⟨f_10, ef_10⟩ : ∃ f : Nat → Int32, f = upd g5 (p0 : Int32).toNatClampNeg a1 := ⟨_, rfl⟩
        rw [← ef_10] at hP hD
        clear ef_10
        replace hP : va_P (dC, dI) vwCl [(h0, .inr (2, [.ref h1, .ref h2, .ref h3, .ref h4, .ref h5, .ref h6, .int a0, .int a1])), (h6, .inl (cI, 20, .inl f_10))] H := hP
        replace hD : va_D A [(h0, .inr (2, [.ref h1, .ref h2, .ref h3, .ref h4, .ref h5, .ref h6, .int a0, .int a1])), (h6, .inl (cI, 20, .inl f_10))] := hD
        refine lv_iconst (v := 1) hx hb dX2_drop_34 (by decide) ?_
        have hP9 := hP.sub (ws' := [(h0, .inr (2, [.ref h1, .ref h2, .ref h3, .ref h4, .ref h5, .ref h6, .int a0, .int a1])), (h6, .inl (cI, 20, .inl f_10))]) [0, 1] rfl
        have hD9 := hD.sub (ws' := [(h0, .inr (2, [.ref h1, .ref h2, .ref h3, .ref h4, .ref h5, .ref h6, .int a0, .int a1])), (h6, .inl (cI, 20, .inl f_10))]) [0, 1] (by decide) rfl
        exact W.zret (v := 1) hx hb hr (rfl) (fun t ht hW => ⟨⟨1, (), rfl, (rg_mono (rg_k (x := 1) (c := 1) (by decide)) (by decide) (by decide)), ⟨f_10, by rw [ht]; exact hP9, hD9⟩⟩, hS.F ht⟩) hS.2.2 dX2_drop_35
      · skip
        refine lv_iconst (v := 0) hx hb dX2_drop_22 (by decide) ?_
        have hP9 := hP.sub (ws' := [(h0, .inr (2, [.ref h1, .ref h2, .ref h3, .ref h4, .ref h5, .ref h6, .int a0, .int a1])), (h6, .inl (cI, 20, .inl g5))]) [0, 1] rfl
        have hD9 := hD.sub (ws' := [(h0, .inr (2, [.ref h1, .ref h2, .ref h3, .ref h4, .ref h5, .ref h6, .int a0, .int a1])), (h6, .inl (cI, 20, .inl g5))]) [0, 1] (by decide) rfl
        exact W.zret (v := 0) hx hb hr (rfl) (fun t ht hW => ⟨⟨0, (), rfl, (rg_mono (rg_k (x := 0) (c := 0) (by decide)) (by decide) (by decide)), ⟨g5, by rw [ht]; exact hP9, hD9⟩⟩, hS.F ht⟩) hS.2.2 dX2_drop_23
def v_s_X3_copy : List Cond := Cond.code yX3_copy cX3_copy 2 none :: ([Cond.fieldLink RX3 9 "MayRings$Order" "houses" "[I", Cond.methodLink RX3 19 arraycopyName, Cond.native arraycopyName, Cond.static arraycopyName, Cond.initialized RJ10, Cond.fieldLink RX3 15 "MayRings$Order" "size" "I"] ++ (wsX30 ++ ([])))
theorem k_s_X3_copy : GoodIn lw_tbl v_s_X3_copy := gd_c (List.mem_of_getElem? (i := 1126) (by decide +kernel)) rfl (goodIn_app (gd_c (List.mem_of_getElem? (i := 360) (by decide +kernel)) rfl (gd_c (List.mem_of_getElem? (i := 1127) (by decide +kernel)) rfl (gd_c (List.mem_of_getElem? (i := 1129) (by decide +kernel)) rfl (gd_c (List.mem_of_getElem? (i := 1128) (by decide +kernel)) rfl (gd_c (List.mem_of_getElem? (i := 148) (by decide +kernel)) rfl (gd_c (List.mem_of_getElem? (i := 363) (by decide +kernel)) rfl (gd_nil))))))) (goodIn_app kfX3 (gd_nil)))
set_option maxHeartbeats 2000000 in
set_option maxRecDepth 100000 in
theorem c_s_X3_copy (l : Launch) (dC : Nat → ClassId) (dI : Nat → Nat → Nat) (cB cI cJ cZ cP : ClassId) (h0 : Nat) (h1 : Nat) (g0 : Nat → Int32) (hg0 : rgA (0) (8) g0) (a0 : Int32) (h2 : Nat) (h3 : Nat) (g1 : Nat → Int32) (hg1 : rgA (0) (8) g1) (a1 : Int32) (sz : Nat) : Met l yX3_copy v_s_X3_copy ({ frames := 1, cells := 0, slots := 0, locals := 80 }) (va_Pc [.ref h0, .ref h2] (fun U => U.heap.size = sz ∧ va_P (dC, dI) vwCl [(h0, .inr (3, [.ref h1, .int a0])), (h1, .inl (cI, 9, .inl g0)), (h2, .inr (3, [.ref h3, .int a1])), (h3, .inl (cI, 9, .inl g1))] U.heap ∧ va_K (dC, dI) vwCl (ty5 cB cI cJ cZ cP) U ∧ va_D (fun _ => True) [(h0, .inr (3, [.ref h1, .int a0])), (h1, .inl (cI, 9, .inl g0)), (h2, .inr (3, [.ref h3, .int a1])), (h3, .inl (cI, 9, .inl g1))])) (va_Qv (fun _ : Unit => True) (fun _ t => ∃ (z0 : Nat → Int32), rgA (0) (8) z0 ∧ va_P (dC, dI) vwCl [(h0, .inr (3, [.ref h1, .int a1])), (h1, .inl (cI, 9, .inl z0)), (h2, .inr (3, [.ref h3, .int a1])), (h3, .inl (cI, 9, .inl g1))] t.heap ∧ va_D (va_A [(h0, .inr (3, [.ref h1, .int a0])), (h1, .inl (cI, 9, .inl g0)), (h2, .inr (3, [.ref h3, .int a1])), (h3, .inl (cI, 9, .inl g1))] sz) [(h0, .inr (3, [.ref h1, .int a1])), (h1, .inl (cI, 9, .inl z0)), (h2, .inr (3, [.ref h3, .int a1])), (h3, .inl (cI, 9, .inl g1))]) (va_A [(h0, .inr (3, [.ref h1, .int a0])), (h1, .inl (cI, 9, .inl g0)), (h2, .inr (3, [.ref h3, .int a1])), (h3, .inl (cI, 9, .inl g1))] sz)) 0 0 (va_A [(h0, .inr (3, [.ref h1, .int a0])), (h1, .inl (cI, 9, .inl g0)), (h2, .inr (3, [.ref h3, .int a1])), (h3, .inl (cI, 9, .inl g1))] sz) := by
  refine Met.ofW (cc := cX3_copy) (maxL := 2) (ret := none) (by decide) rfl ?_
  intro p e s m args below meth c s₁ B hml hv
  obtain ⟨rfl, hsz, hP, hK, hD0⟩ := hv
  have hx := B.exec
  have hb := B.bytes
  have hr := B.returns
  have hts := atoms_spec (ws := v_s_X3_copy) B.pre
  have hown : s.vm.findClass RX3 = some m.cls := findClass_of_methodNamed B.named
  have hlocks := B.notSynchronized
  have hinX3 : ∀ w ∈ wsX30, w ∈ v_s_X3_copy := fun _ h => List.mem_cons_of_mem _ (List.mem_append_right _ (List.mem_append_left _ h))
  subst hsz
  have hD := hD0.self (sz := s.heap.size)
  generalize hAe : va_A [(h0, .inr (3, [.ref h1, .int a0])), (h1, .inl (cI, 9, .inl g0)), (h2, .inr (3, [.ref h3, .int a1])), (h3, .inl (cI, 9, .inl g1))] s.heap.size = A at hD ⊢
  have hA : ∀ q : Nat, s.heap.size ≤ q → A q := fun q h => by rw [← hAe]; exact Or.inr h
  have hP : va_P (dC, dI) vwCl [(h0, .inr (3, [.ref h1, .int a0])), (h1, .inl (cI, 9, .inl g0)), (h2, .inr (3, [.ref h3, .int a1])), (h3, .inl (cI, 9, .inl g1))] s.heap := hP
  have hl := lv_entry ([.ref h0, .ref h2]) (n := 2) (Nat.le_of_ble_eq_true rfl)
  rw [lg_entry_eq]
  generalize (lg_sl ([.ref h0, .ref h2]) ++ List.replicate (2 - (lg_sl ([.ref h0, .ref h2])).length) Slot.unset).toArray = ls at hl ⊢
  have hl : lv_has ls 2 [(0, .ref h0), (1, .ref h2)] := hl
  refine W_gen (A := A) hP (fun H locs hP hS => ?_)
  refine lv_aload_n hx hb dX3_copy_0 rfl (lv_at hl 1 rfl) ?_
  refine va_get (D := (dC, dI)) (ci := 3) (v := .ref h3) (C := RX3) (T := TX3) (N := 2) hx hb hts hinX3 hown hK hP 2 rfl rfl 0 (by decide) (hts (.fieldLink RX3 9 "MayRings$Order" "houses" "[I") (List.mem_of_getElem? (i := 1) rfl)) (fun _ h9 => h9) rfl dX3_copy_1 ?_
  refine lv_iconst (v := 0) hx hb dX3_copy_4 (by decide) ?_
  refine lv_aload_n hx hb dX3_copy_5 rfl (lv_at hl 0 rfl) ?_
  refine va_get (D := (dC, dI)) (ci := 3) (v := .ref h1) (C := RX3) (T := TX3) (N := 2) hx hb hts hinX3 hown hK hP 0 rfl rfl 0 (by decide) (hts (.fieldLink RX3 9 "MayRings$Order" "houses" "[I") (List.mem_of_getElem? (i := 1) rfl)) (fun _ h9 => h9) rfl dX3_copy_6 ?_
  refine lv_iconst (v := 0) hx hb dX3_copy_9 (by decide) ?_
  refine lv_bipush (v := 9) hx hb dX3_copy_10 (by decide) ?_
  refine va_copyi hx hb (by rw [hml]; exact hl.1.symm) hown (hts (.methodLink RX3 19 arraycopyName) (List.mem_of_getElem? (i := 2) rfl)) (hts (.native arraycopyName) (List.mem_of_getElem? (i := 3) rfl)) (hts (.static arraycopyName) (List.mem_of_getElem? (i := 4) rfl)) (hts (.initialized RJ10) (List.mem_of_getElem? (i := 5) rfl)) hK hP hD hS 3 1 1 1 rfl rfl rfl rfl rfl (by decide) (by decide) (by decide) (by decide) (by decide) (fun _ _ => rfl) (Nat.le_of_ble_eq_true rfl) (Nat.le_of_ble_eq_true rfl) dX3_copy_12 (fun H locs hP hD hS => ?_)
  obtain ⟨f_1, ef_1⟩ : ∃ f : Nat → Int32, f = va_cpy g1 g0 (0 : Int32).toNatClampNeg (0 : Int32).toNatClampNeg (9 : Int32).toNatClampNeg := ⟨_, rfl⟩
  rw [← ef_1] at hP hD
  have hf_1 : rgA (0) (8) f_1 := by rw [ef_1]; exact rgA_cpy hg1 hg0
  clear ef_1
  replace hP : va_P (dC, dI) vwCl [(h0, .inr (3, [.ref h1, .int a0])), (h1, .inl (cI, 9, .inl f_1)), (h2, .inr (3, [.ref h3, .int a1])), (h3, .inl (cI, 9, .inl g1))] H := hP
  replace hD : va_D A [(h0, .inr (3, [.ref h1, .int a0])), (h1, .inl (cI, 9, .inl f_1)), (h2, .inr (3, [.ref h3, .int a1])), (h3, .inl (cI, 9, .inl g1))] := hD
  refine lv_aload_n hx hb dX3_copy_15 rfl (lv_at hl 0 rfl) ?_
  refine lv_aload_n hx hb dX3_copy_16 rfl (lv_at hl 1 rfl) ?_
  refine va_get (D := (dC, dI)) (ci := 3) (v := .int a1) (C := RX3) (T := TX3) (N := 2) hx hb hts hinX3 hown hK hP 2 rfl rfl 1 (by decide) (hts (.fieldLink RX3 15 "MayRings$Order" "size" "I") (List.mem_of_getElem? (i := 6) rfl)) (fun _ h9 => h9) rfl dX3_copy_17 ?_
  refine va_put (D := (dC, dI)) (ci := 3) (v := .int a1) (ty := .int) (C := RX3) (T := TX3) (N := 2) hx hb hts hinX3 tyX3 tyX3_ok nmX3 hown hK hP hD hS 0 rfl rfl 1 (by decide) (hts (.fieldLink RX3 15 "MayRings$Order" "size" "I") (List.mem_of_getElem? (i := 6) rfl)) (fun _ h9 => h9) rfl (by decide +kernel) (rfl) (rfl) (Nat.le_of_ble_eq_true rfl) dX3_copy_20 (fun H locs hP hD hS => ?_)
  replace hP : va_P (dC, dI) vwCl [(h0, .inr (3, [.ref h1, .int a1])), (h1, .inl (cI, 9, .inl f_1)), (h2, .inr (3, [.ref h3, .int a1])), (h3, .inl (cI, 9, .inl g1))] H := hP
  replace hD : va_D A [(h0, .inr (3, [.ref h1, .int a1])), (h1, .inl (cI, 9, .inl f_1)), (h2, .inr (3, [.ref h3, .int a1])), (h3, .inl (cI, 9, .inl g1))] := hD
  have hP9 := hP.sub (ws' := [(h0, .inr (3, [.ref h1, .int a1])), (h1, .inl (cI, 9, .inl f_1)), (h2, .inr (3, [.ref h3, .int a1])), (h3, .inl (cI, 9, .inl g1))]) [0, 1, 2, 3] rfl
  have hD9 := hD.sub (ws' := [(h0, .inr (3, [.ref h1, .int a1])), (h1, .inl (cI, 9, .inl f_1)), (h2, .inr (3, [.ref h3, .int a1])), (h3, .inl (cI, 9, .inl g1))]) [0, 1, 2, 3] (by decide) rfl
  exact W.vret hx hb hr (fun t ht hW => ⟨⟨(), rfl, trivial, ⟨f_1, hf_1, by rw [ht]; exact hP9, hD9⟩⟩, hS.F ht⟩) hS.2.2 dX3_copy_23
