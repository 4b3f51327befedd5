def v_s_X1_pop : List Cond := Cond.code yX1_pop cX1_pop 1 (some .int) :: ([Cond.fieldLink RX1 25 "MayRings$Law" "top" "I", Cond.fieldLink RX1 15 "MayRings$Law" "stack" "[I"] ++ (wsX10 ++ ([])))
theorem k_s_X1_pop : GoodIn lw_tbl v_s_X1_pop := gd_c (List.mem_of_getElem? (i := 821) (by decide +kernel)) rfl (goodIn_app (gd_c (List.mem_of_getElem? (i := 187) (by decide +kernel)) rfl (gd_c (List.mem_of_getElem? (i := 184) (by decide +kernel)) rfl (gd_nil))) (goodIn_app kfX1 (gd_nil)))
set_option maxHeartbeats 2000000 in
set_option maxRecDepth 100000 in
theorem c_s_X1_pop (l : Launch) (dC : Nat → ClassId) (dI : Nat → Nat → Nat) (cB cI cJ cZ cP : ClassId) (h0 : Nat) (h1 : Nat) (h2 : Nat) (g1 : Nat → Int32) (h3 : Nat) (a0 : Int32) (a1 : Int32) (ha1 : rg (0) (40) a1) (a2 : Int32) (sz : Nat) : Met l yX1_pop v_s_X1_pop ({ frames := 0, cells := 0, slots := 0, locals := 0 }) (va_Pc [.ref h0] (fun U => U.heap.size = sz ∧ va_P (dC, dI) vwCl [(h0, .inr (1, [.ref h1, .ref h2, .ref h3, .int a0, .int a1, .int a2])), (h2, .inl (cI, 40, .inl g1))] U.heap ∧ va_K (dC, dI) vwCl (ty5 cB cI cJ cZ cP) U ∧ va_D (fun _ => True) [(h0, .inr (1, [.ref h1, .ref h2, .ref h3, .int a0, .int a1, .int a2])), (h2, .inl (cI, 40, .inl g1))])) (va_Qi (fun (r : Int32) (u9 : Unit) => True) (fun u9 t => ∃ (z0 : Int32), rg (0) (40) z0 ∧ va_P (dC, dI) vwCl [(h0, .inr (1, [.ref h1, .ref h2, .ref h3, .int a0, .int z0, .int a2])), (h2, .inl (cI, 40, .inl g1))] t.heap ∧ va_D (va_A [(h0, .inr (1, [.ref h1, .ref h2, .ref h3, .int a0, .int a1, .int a2])), (h2, .inl (cI, 40, .inl g1))] sz) [(h0, .inr (1, [.ref h1, .ref h2, .ref h3, .int a0, .int z0, .int a2])), (h2, .inl (cI, 40, .inl g1))]) (va_A [(h0, .inr (1, [.ref h1, .ref h2, .ref h3, .int a0, .int a1, .int a2])), (h2, .inl (cI, 40, .inl g1))] sz)) 0 0 (va_A [(h0, .inr (1, [.ref h1, .ref h2, .ref h3, .int a0, .int a1, .int a2])), (h2, .inl (cI, 40, .inl g1))] sz) := by
  refine Met.ofW (cc := cX1_pop) (maxL := 1) (ret := (some .int)) (by decide) rfl ?_
  intro p e s m args below meth c s₁ B hml hv
  obtain ⟨rfl, hsz, hP, hK, hD0⟩ := hv
  have hx := B.exec
  have hb := B.bytes
  have hr := B.returns
  have hts := atoms_spec (ws := v_s_X1_pop) B.pre
  have hown : s.vm.findClass RX1 = some m.cls := findClass_of_methodNamed B.named
  have hlocks := B.notSynchronized
  have hinX1 : ∀ w ∈ wsX10, w ∈ v_s_X1_pop := fun _ h => List.mem_cons_of_mem _ (List.mem_append_right _ (List.mem_append_left _ h))
  subst hsz
  have hD := hD0.self (sz := s.heap.size)
  generalize hAe : va_A [(h0, .inr (1, [.ref h1, .ref h2, .ref h3, .int a0, .int a1, .int a2])), (h2, .inl (cI, 40, .inl g1))] s.heap.size = A at hD ⊢
  have hA : ∀ q : Nat, s.heap.size ≤ q → A q := fun q h => by rw [← hAe]; exact Or.inr h
  have hP : va_P (dC, dI) vwCl [(h0, .inr (1, [.ref h1, .ref h2, .ref h3, .int a0, .int a1, .int a2])), (h2, .inl (cI, 40, .inl g1))] s.heap := hP
  have hl := lv_entry ([.ref h0]) (n := 1) (Nat.le_of_ble_eq_true rfl)
  rw [lg_entry_eq]
  generalize (lg_sl ([.ref h0]) ++ List.replicate (1 - (lg_sl ([.ref h0])).length) Slot.unset).toArray = ls at hl ⊢
  have hl : lv_has ls 1 [(0, .ref h0)] := hl
  refine W_gen (A := A) hP (fun H locs hP hS => ?_)
  refine lv_aload_n hx hb dX1_pop_0 rfl (lv_at hl 0 rfl) ?_
  refine va_get (D := (dC, dI)) (ci := 1) (v := .int a1) (C := RX1) (T := TX1) (N := 6) hx hb hts hinX1 hown hK hP 0 rfl rfl 4 (by decide) (hts (.fieldLink RX1 25 "MayRings$Law" "top" "I") (List.mem_of_getElem? (i := 1) rfl)) (fun _ h9 => h9) rfl dX1_pop_1 ?_
  refine lv_if_gt (tgt := 9) hx hb dX1_pop_4 (by decide) (fun c_1 => ?_) (fun c_1 => ?_)
  · skip
    have h_2 : rg (1) (40) a1 := by have ha := ha1; have hb_ := (rg_k (x := 0) (c := 0) (by decide)); simp only [rg, fa_lt, fa_le, fa_eq, (by decide : (0 : Int32).toInt = 0)] at ha hb_ c_1; simp only [rg]; omega
    refine lv_aload_n hx hb dX1_pop_9 rfl (lv_at hl 0 rfl) ?_
    refine lv_dup hx hb dX1_pop_10 rfl ?_
    refine va_get (D := (dC, dI)) (ci := 1) (v := .int a1) (C := RX1) (T := TX1) (N := 6) hx hb hts hinX1 hown hK hP 0 rfl rfl 4 (by decide) (hts (.fieldLink RX1 25 "MayRings$Law" "top" "I") (List.mem_of_getElem? (i := 1) rfl)) (fun _ h9 => h9) rfl dX1_pop_11 ?_
    refine lv_iconst (v := 1) hx hb dX1_pop_14 (by decide) ?_
    refine lv_isub hx hb dX1_pop_15 ?_
    refine lv_topi (fun x_3 ex_3 => ?_)
    have hx_3 : rg (0) (39) x_3 := by rw [ex_3]; exact rg_mono (rg_sub h_2 (rg_k (x := 1) (c := 1) (by decide)) (by decide) (by decide)) (by decide) (by decide)
    have qx_3 : x_3.toInt = a1.toInt + (-1) := by rw [ex_3]; exact rg_subE h_2 (rg_k (x := 1) (c := 1) (by decide)) (by decide) (by decide) trivial
    refine va_put (D := (dC, dI)) (ci := 1) (v := .int x_3) (ty := .int) (C := RX1) (T := TX1) (N := 6) hx hb hts hinX1 tyX1 tyX1_ok nmX1 hown hK hP hD hS 0 rfl rfl 4 (by decide) (hts (.fieldLink RX1 25 "MayRings$Law" "top" "I") (List.mem_of_getElem? (i := 1) rfl)) (fun _ h9 => h9) rfl (by decide +kernel) (rfl) (rfl) (Nat.le_of_ble_eq_true rfl) dX1_pop_16 (fun H locs hP hD hS => ?_)
    replace hP : va_P (dC, dI) vwCl [(h0, .inr (1, [.ref h1, .ref h2, .ref h3, .int a0, .int x_3, .int a2])), (h2, .inl (cI, 40, .inl g1))] H := hP
    replace hD : va_D A [(h0, .inr (1, [.ref h1, .ref h2, .ref h3, .int a0, .int x_3, .int a2])), (h2, .inl (cI, 40, .inl g1))] := hD
    refine lv_aload_n hx hb dX1_pop_19 rfl (lv_at hl 0 rfl) ?_
    refine va_get (D := (dC, dI)) (ci := 1) (v := .ref h2) (C := RX1) (T := TX1) (N := 6) hx hb hts hinX1 hown hK hP 0 rfl rfl 1 (by decide) (hts (.fieldLink RX1 15 "MayRings$Law" "stack" "[I") (List.mem_of_getElem? (i := 2) rfl)) (fun _ h9 => h9) rfl dX1_pop_20 ?_
    refine lv_aload_n hx hb dX1_pop_23 rfl (lv_at hl 0 rfl) ?_
    refine va_get (D := (dC, dI)) (ci := 1) (v := .int x_3) (C := RX1) (T := TX1) (N := 6) hx hb hts hinX1 hown hK hP 0 rfl rfl 4 (by decide) (hts (.fieldLink RX1 25 "MayRings$Law" "top" "I") (List.mem_of_getElem? (i := 1) rfl)) (fun _ h9 => h9) rfl dX1_pop_24 ?_
    refine va_iald hx hb hK hP 1 1 rfl rfl (rg_in (n := 40) (rg_mono hx_3 (by decide) (by decide))) dX1_pop_27 ?_
    refine lv_topi (fun x_4 ex_4 => ?_)
    have hP9 := hP.sub (ws' := [(h0, .inr (1, [.ref h1, .ref h2, .ref h3, .int a0, .int x_3, .int a2])), (h2, .inl (cI, 40, .inl g1))]) [0, 1] rfl
    have hD9 := hD.sub (ws' := [(h0, .inr (1, [.ref h1, .ref h2, .ref h3, .int a0, .int x_3, .int a2])), (h2, .inl (cI, 40, .inl g1))]) [0, 1] (by decide) rfl
    exact W.iret (v := x_4) hx hb hr (fun t ht hW => ⟨⟨x_4, (), rfl, trivial, ⟨x_3, (rg_mono hx_3 (by decide) (by decide)), by rw [ht]; exact hP9, hD9⟩⟩, hS.F ht⟩) hS.2.2 dX1_pop_28
  · skip
    have h_5 : rg (0) (0) a1 := by have ha := ha1; have hb_ := (rg_k (x := 0) (c := 0) (by decide)); simp only [rg, fa_lt, fa_le, fa_eq, (by decide : (0 : Int32).toInt = 0)] at ha hb_ c_1; simp only [rg]; omega
    refine lv_iconst (v := 0) hx hb dX1_pop_7 (by decide) ?_
    have hP9 := hP.sub (ws' := [(h0, .inr (1, [.ref h1, .ref h2, .ref h3, .int a0, .int a1, .int a2])), (h2, .inl (cI, 40, .inl g1))]) [0, 1] rfl
    have hD9 := hD.sub (ws' := [(h0, .inr (1, [.ref h1, .ref h2, .ref h3, .int a0, .int a1, .int a2])), (h2, .inl (cI, 40, .inl g1))]) [0, 1] (by decide) rfl
    exact W.iret (v := 0) hx hb hr (fun t ht hW => ⟨⟨0, (), rfl, trivial, ⟨a1, (rg_mono h_5 (by decide) (by decide)), by rw [ht]; exact hP9, hD9⟩⟩, hS.F ht⟩) hS.2.2 dX1_pop_8
def v_s_X1_push : List Cond := Cond.code yX1_push cX1_push 2 none :: ([Cond.fieldLink RX1 25 "MayRings$Law" "top" "I", Cond.fieldLink RX1 15 "MayRings$Law" "stack" "[I"] ++ (wsX10 ++ ([])))
theorem k_s_X1_push : GoodIn lw_tbl v_s_X1_push := gd_c (List.mem_of_getElem? (i := 817) (by decide +kernel)) rfl (goodIn_app (gd_c (List.mem_of_getElem? (i := 187) (by decide +kernel)) rfl (gd_c (List.mem_of_getElem? (i := 184) (by decide +kernel)) rfl (gd_nil))) (goodIn_app kfX1 (gd_nil)))
set_option maxHeartbeats 2000000 in
set_option maxRecDepth 100000 in
theorem c_s_X1_push (l : Launch) (dC : Nat → ClassId) (dI : Nat → Nat → Nat) (cB cI cJ cZ cP : ClassId) (h0 : Nat) (h1 : Nat) (h2 : Nat) (g1 : Nat → Int32) (h3 : Nat) (a0 : Int32) (a1 : Int32) (ha1 : rg (0) (40) a1) (a2 : Int32) (p0 : Int32) (sz : Nat) : Met l yX1_push v_s_X1_push ({ frames := 0, cells := 0, slots := 0, locals := 0 }) (va_Pc [.ref h0, .int p0] (fun U => U.heap.size = sz ∧ va_P (dC, dI) vwCl [(h0, .inr (1, [.ref h1, .ref h2, .ref h3, .int a0, .int a1, .int a2])), (h2, .inl (cI, 40, .inl g1))] U.heap ∧ va_K (dC, dI) vwCl (ty5 cB cI cJ cZ cP) U ∧ va_D (fun _ => True) [(h0, .inr (1, [.ref h1, .ref h2, .ref h3, .int a0, .int a1, .int a2])), (h2, .inl (cI, 40, .inl g1))])) (va_Qv (fun _ : Unit => True) (fun _ t => ∃ (z0 : Int32) (z1 : Nat → Int32), rg (0) (40) z0 ∧ va_P (dC, dI) vwCl [(h0, .inr (1, [.ref h1, .ref h2, .ref h3, .int a0, .int z0, .int a2])), (h2, .inl (cI, 40, .inl z1))] t.heap ∧ va_D (va_A [(h0, .inr (1, [.ref h1, .ref h2, .ref h3, .int a0, .int a1, .int a2])), (h2, .inl (cI, 40, .inl g1))] sz) [(h0, .inr (1, [.ref h1, .ref h2, .ref h3, .int a0, .int z0, .int a2])), (h2, .inl (cI, 40, .inl z1))]) (va_A [(h0, .inr (1, [.ref h1, .ref h2, .ref h3, .int a0, .int a1, .int a2])), (h2, .inl (cI, 40, .inl g1))] sz)) 0 0 (va_A [(h0, .inr (1, [.ref h1, .ref h2, .ref h3, .int a0, .int a1, .int a2])), (h2, .inl (cI, 40, .inl g1))] sz) := by
  refine Met.ofW (cc := cX1_push) (maxL := 2) (ret := none) (by decide) rfl ?_
  intro p e s m args below meth c s₁ B hml hv
  obtain ⟨rfl, hsz, hP, hK, hD0⟩ := hv
  have hx := B.exec
  have hb := B.bytes
  have hr := B.returns
  have hts := atoms_spec (ws := v_s_X1_push) B.pre
  have hown : s.vm.findClass RX1 = some m.cls := findClass_of_methodNamed B.named
  have hlocks := B.notSynchronized
  have hinX1 : ∀ w ∈ wsX10, w ∈ v_s_X1_push := fun _ h => List.mem_cons_of_mem _ (List.mem_append_right _ (List.mem_append_left _ h))
  subst hsz
  have hD := hD0.self (sz := s.heap.size)
  generalize hAe : va_A [(h0, .inr (1, [.ref h1, .ref h2, .ref h3, .int a0, .int a1, .int a2])), (h2, .inl (cI, 40, .inl g1))] s.heap.size = A at hD ⊢
  have hA : ∀ q : Nat, s.heap.size ≤ q → A q := fun q h => by rw [← hAe]; exact Or.inr h
  have hP : va_P (dC, dI) vwCl [(h0, .inr (1, [.ref h1, .ref h2, .ref h3, .int a0, .int a1, .int a2])), (h2, .inl (cI, 40, .inl g1))] s.heap := hP
  have hl := lv_entry ([.ref h0, .int p0]) (n := 2) (Nat.le_of_ble_eq_true rfl)
  rw [lg_entry_eq]
  generalize (lg_sl ([.ref h0, .int p0]) ++ List.replicate (2 - (lg_sl ([.ref h0, .int p0])).length) Slot.unset).toArray = ls at hl ⊢
  have hl : lv_has ls 2 [(0, .ref h0), (1, .int p0)] := hl
  refine W_gen (A := A) hP (fun H locs hP hS => ?_)
  refine lv_aload_n hx hb dX1_push_0 rfl (lv_at hl 0 rfl) ?_
  refine va_get (D := (dC, dI)) (ci := 1) (v := .int a1) (C := RX1) (T := TX1) (N := 6) hx hb hts hinX1 hown hK hP 0 rfl rfl 4 (by decide) (hts (.fieldLink RX1 25 "MayRings$Law" "top" "I") (List.mem_of_getElem? (i := 1) rfl)) (fun _ h9 => h9) rfl dX1_push_1 ?_
  refine lv_bipush (v := 40) hx hb dX1_push_4 (by decide) ?_
  refine lv_icmp_ge (tgt := 29) hx hb dX1_push_6 (by decide) (fun c_1 => ?_) (fun c_1 => ?_)
  · skip
    have h_2 : rg (40) (40) a1 := by have ha := ha1; have hb_ := (rg_k (x := 40) (c := 40) (by decide)); simp only [rg, fa_lt, fa_le, fa_eq, (by decide : (40 : Int32).toInt = 40)] at ha hb_ c_1; simp only [rg]; omega
    have hP9 := hP.sub (ws' := [(h0, .inr (1, [.ref h1, .ref h2, .ref h3, .int a0, .int a1, .int a2])), (h2, .inl (cI, 40, .inl g1))]) [0, 1] rfl
    have hD9 := hD.sub (ws' := [(h0, .inr (1, [.ref h1, .ref h2, .ref h3, .int a0, .int a1, .int a2])), (h2, .inl (cI, 40, .inl g1))]) [0, 1] (by decide) rfl
    exact W.vret hx hb hr (fun t ht hW => ⟨⟨(), rfl, trivial, ⟨a1, g1, (rg_mono h_2 (by decide) (by decide)), by rw [ht]; exact hP9, hD9⟩⟩, hS.F ht⟩) hS.2.2 dX1_push_29
  · skip
    have h_3 : rg (0) (39) a1 := by have ha := ha1; have hb_ := (rg_k (x := 40) (c := 40) (by decide)); simp only [rg, fa_lt, fa_le, fa_eq, (by decide : (40 : Int32).toInt = 40)] at ha hb_ c_1; simp only [rg]; omega
    refine lv_aload_n hx hb dX1_push_9 rfl (lv_at hl 0 rfl) ?_
    refine va_get (D := (dC, dI)) (ci := 1) (v := .ref h2) (C := RX1) (T := TX1) (N := 6) hx hb hts hinX1 hown hK hP 0 rfl rfl 1 (by decide) (hts (.fieldLink RX1 15 "MayRings$Law" "stack" "[I") (List.mem_of_getElem? (i := 2) rfl)) (fun _ h9 => h9) rfl dX1_push_10 ?_
    refine lv_aload_n hx hb dX1_push_13 rfl (lv_at hl 0 rfl) ?_
    refine va_get (D := (dC, dI)) (ci := 1) (v := .int a1) (C := RX1) (T := TX1) (N := 6) hx hb hts hinX1 hown hK hP 0 rfl rfl 4 (by decide) (hts (.fieldLink RX1 25 "MayRings$Law" "top" "I") (List.mem_of_getElem? (i := 1) rfl)) (fun _ h9 => h9) rfl dX1_push_14 ?_
    refine lv_iload_n hx hb dX1_push_17 rfl (lv_at hl 1 rfl) ?_
    refine va_iast hx hb hK hP hD hS 1 1 rfl rfl (rg_in (n := 40) (rg_mono h_3 (by decide) (by decide))) dX1_push_18 (fun H locs hP hD hS => ?_)
    obtain ⟨f_4, ef_4⟩ : ∃ f : Nat → Int32, f = upd g1 (a1 : Int32).toNatClampNeg p0 := ⟨_, rfl⟩
    rw [← ef_4] at hP hD
    clear ef_4
    replace hP : va_P (dC, dI) vwCl [(h0, .inr (1, [.ref h1, .ref h2, .ref h3, .int a0, .int a1, .int a2])), (h2, .inl (cI, 40, .inl f_4))] H := hP
    replace hD : va_D A [(h0, .inr (1, [.ref h1, .ref h2, .ref h3, .int a0, .int a1, .int a2])), (h2, .inl (cI, 40, .inl f_4))] := hD
    refine lv_aload_n hx hb dX1_push_19 rfl (lv_at hl 0 rfl) ?_
    refine lv_dup hx hb dX1_push_20 rfl ?_
    refine va_get (D := (dC, dI)) (ci := 1) (v := .int a1) (C := RX1) (T := TX1) (N := 6) hx hb hts hinX1 hown hK hP 0 rfl rfl 4 (by decide) (hts (.fieldLink RX1 25 "MayRings$Law" "top" "I") (List.mem_of_getElem? (i := 1) rfl)) (fun _ h9 => h9) rfl dX1_push_21 ?_
    refine lv_iconst (v := 1) hx hb dX1_push_24 (by decide) ?_
    refine lv_iadd hx hb dX1_push_25 ?_
    refine lv_topi (fun x_5 ex_5 => ?_)
    have hx_5 : rg (1) (40) x_5 := by rw [ex_5]; exact rg_mono (rg_add h_3 (rg_k (x := 1) (c := 1) (by decide)) (by decide) (by decide)) (by decide) (by decide)
    have qx_5 : x_5.toInt = a1.toInt + (1) := by rw [ex_5]; exact rg_addE h_3 (rg_k (x := 1) (c := 1) (by decide)) (by decide) (by decide) trivial
    refine va_put (D := (dC, dI)) (ci := 1) (v := .int x_5) (ty := .int) (C := RX1) (T := TX1) (N := 6) hx hb hts hinX1 tyX1 tyX1_ok nmX1 hown hK hP hD hS 0 rfl rfl 4 (by decide) (hts (.fieldLink RX1 25 "MayRings$Law" "top" "I") (List.mem_of_getElem? (i := 1) rfl)) (fun _ h9 => h9) rfl (by decide +kernel) (rfl) (rfl) (Nat.le_of_ble_eq_true rfl) dX1_push_26 (fun H locs hP hD hS => ?_)
    replace hP : va_P (dC, dI) vwCl [(h0, .inr (1, [.ref h1, .ref h2, .ref h3, .int a0, .int x_5, .int a2])), (h2, .inl (cI, 40, .inl f_4))] H := hP
    replace hD : va_D A [(h0, .inr (1, [.ref h1, .ref h2, .ref h3, .int a0, .int x_5, .int a2])), (h2, .inl (cI, 40, .inl f_4))] := hD
    have hP9 := hP.sub (ws' := [(h0, .inr (1, [.ref h1, .ref h2, .ref h3, .int a0, .int x_5, .int a2])), (h2, .inl (cI, 40, .inl f_4))]) [0, 1] rfl
    have hD9 := hD.sub (ws' := [(h0, .inr (1, [.ref h1, .ref h2, .ref h3, .int a0, .int x_5, .int a2])), (h2, .inl (cI, 40, .inl f_4))]) [0, 1] (by decide) rfl
    exact W.vret hx hb hr (fun t ht hW => ⟨⟨(), rfl, trivial, ⟨x_5, f_4, (rg_mono hx_5 (by decide) (by decide)), by rw [ht]; exact hP9, hD9⟩⟩, hS.F ht⟩) hS.2.2 dX1_push_29
def v_s_X1_value : List Cond := Cond.code yX1_value cX1_value 4 (some .int) :: ([Cond.fieldLink RX1 25 "MayRings$Law" "top" "I", Cond.fieldLink RX1 21 "MayRings$Law" "length" "I", Cond.methodLink RX1 44 yX1_pop, Cond.instanceMethod yX1_pop, Cond.selects RX1 yX1_pop yX1_pop, Cond.initialized RX1, Cond.fieldLink RX1 11 "MayRings$Law" "codes" "[I", Cond.fieldLink RX1 18 "MayRings$Law" "facts" "[I", Cond.methodLink RX1 41 yX1_push, Cond.instanceMethod yX1_push, Cond.selects RX1 yX1_push yX1_push, Cond.methodLink RX1 48 yX1_joined, Cond.static yX1_joined] ++ (wsX10 ++ (v_s_X1_pop ++ (v_s_X1_push ++ (v_s_X1_joined ++ ([]))))))
theorem k_s_X1_value : GoodIn lw_tbl v_s_X1_value := gd_c (List.mem_of_getElem? (i := 813) (by decide +kernel)) rfl (goodIn_app (gd_c (List.mem_of_getElem? (i := 187) (by decide +kernel)) rfl (gd_c (List.mem_of_getElem? (i := 186) (by decide +kernel)) rfl (gd_c (List.mem_of_getElem? (i := 818) (by decide +kernel)) rfl (gd_c (List.mem_of_getElem? (i := 820) (by decide +kernel)) rfl (gd_c (List.mem_of_getElem? (i := 27) (by decide +kernel)) rfl (gd_c (List.mem_of_getElem? (i := 133) (by decide +kernel)) rfl (gd_c (List.mem_of_getElem? (i := 183) (by decide +kernel)) rfl (gd_c (List.mem_of_getElem? (i := 185) (by decide +kernel)) rfl (gd_c (List.mem_of_getElem? (i := 814) (by decide +kernel)) rfl (gd_c (List.mem_of_getElem? (i := 816) (by decide +kernel)) rfl (gd_c (List.mem_of_getElem? (i := 26) (by decide +kernel)) rfl (gd_c (List.mem_of_getElem? (i := 822) (by decide +kernel)) rfl (gd_c (List.mem_of_getElem? (i := 823) (by decide +kernel)) rfl (gd_nil)))))))))))))) (goodIn_app kfX1 (goodIn_app k_s_X1_pop (goodIn_app k_s_X1_push (goodIn_app k_s_X1_joined (gd_nil))))))
set_option maxHeartbeats 2000000 in
set_option maxRecDepth 100000 in
theorem c_s_X1_value (l : Launch) (dC : Nat → ClassId) (dI : Nat → Nat → Nat) (cB cI cJ cZ cP : ClassId) (h0 : Nat) (h1 : Nat) (g0 : Nat → Int32) (h2 : Nat) (g1 : Nat → Int32) (h3 : Nat) (g2 : Nat → Int32) (a0 : Int32) (ha0 : rg (0) (360) a0) (a1 : Int32) (a2 : Int32) (sz : Nat) : Met l yX1_value v_s_X1_value ({ frames := 1, cells := 0, slots := 0, locals := 22 }) (va_Pc [.ref h0] (fun U => U.heap.size = sz ∧ va_P (dC, dI) vwCl [(h0, .inr (1, [.ref h1, .ref h2, .ref h3, .int a0, .int a1, .int a2])), (h1, .inl (cI, 360, .inl g0)), (h2, .inl (cI, 40, .inl g1)), (h3, .inl (cI, 16, .inl g2))] U.heap ∧ va_K (dC, dI) vwCl (ty5 cB cI cJ cZ cP) U ∧ va_D (fun _ => True) [(h0, .inr (1, [.ref h1, .ref h2, .ref h3, .int a0, .int a1, .int a2])), (h1, .inl (cI, 360, .inl g0)), (h2, .inl (cI, 40, .inl g1)), (h3, .inl (cI, 16, .inl g2))])) (va_Qi (fun (r : Int32) (u9 : Unit) => True) (fun u9 t => ∃ (z0 : Int32) (z1 : Nat → Int32), rg (0) (40) z0 ∧ va_P (dC, dI) vwCl [(h0, .inr (1, [.ref h1, .ref h2, .ref h3, .int a0, .int z0, .int a2])), (h1, .inl (cI, 360, .inl g0)), (h2, .inl (cI, 40, .inl z1)), (h3, .inl (cI, 16, .inl g2))] t.heap ∧ va_D (va_A [(h0, .inr (1, [.ref h1, .ref h2, .ref h3, .int a0, .int a1, .int a2])), (h1, .inl (cI, 360, .inl g0)), (h2, .inl (cI, 40, .inl g1)), (h3, .inl (cI, 16, .inl g2))] sz) [(h0, .inr (1, [.ref h1, .ref h2, .ref h3, .int a0, .int z0, .int a2])), (h1, .inl (cI, 360, .inl g0)), (h2, .inl (cI, 40, .inl z1)), (h3, .inl (cI, 16, .inl g2))]) (va_A [(h0, .inr (1, [.ref h1, .ref h2, .ref h3, .int a0, .int a1, .int a2])), (h1, .inl (cI, 360, .inl g0)), (h2, .inl (cI, 40, .inl g1)), (h3, .inl (cI, 16, .inl g2))] sz)) 0 0 (va_A [(h0, .inr (1, [.ref h1, .ref h2, .ref h3, .int a0, .int a1, .int a2])), (h1, .inl (cI, 360, .inl g0)), (h2, .inl (cI, 40, .inl g1)), (h3, .inl (cI, 16, .inl g2))] sz) := by
  refine Met.ofW (cc := cX1_value) (maxL := 4) (ret := (some .int)) (by decide) rfl ?_
  intro p e s m args below meth c s₁ B hml hv
  obtain ⟨rfl, hsz, hP, hK, hD0⟩ := hv
  have hx := B.exec
  have hb := B.bytes
  have hr := B.returns
  have hts := atoms_spec (ws := v_s_X1_value) B.pre
  have hown : s.vm.findClass RX1 = some m.cls := findClass_of_methodNamed B.named
  have hlocks := B.notSynchronized
  have hinX1 : ∀ w ∈ wsX10, w ∈ v_s_X1_value := fun _ h => List.mem_cons_of_mem _ (List.mem_append_right _ (List.mem_append_left _ h))
  subst hsz
  have hD := hD0.self (sz := s.heap.size)
  generalize hAe : va_A [(h0, .inr (1, [.ref h1, .ref h2, .ref h3, .int a0, .int a1, .int a2])), (h1, .inl (cI, 360, .inl g0)), (h2, .inl (cI, 40, .inl g1)), (h3, .inl (cI, 16, .inl g2))] s.heap.size = A at hD ⊢
  have hA : ∀ q : Nat, s.heap.size ≤ q → A q := fun q h => by rw [← hAe]; exact Or.inr h
  have hP : va_P (dC, dI) vwCl [(h0, .inr (1, [.ref h1, .ref h2, .ref h3, .int a0, .int a1, .int a2])), (h1, .inl (cI, 360, .inl g0)), (h2, .inl (cI, 40, .inl g1)), (h3, .inl (cI, 16, .inl g2))] s.heap := hP
  have hl := lv_entry ([.ref h0]) (n := 4) (Nat.le_of_ble_eq_true rfl)
  rw [lg_entry_eq]
  generalize (lg_sl ([.ref h0]) ++ List.replicate (4 - (lg_sl ([.ref h0])).length) Slot.unset).toArray = ls at hl ⊢
  have hl : lv_has ls 4 [(0, .ref h0)] := hl
  refine W_gen (A := A) hP (fun H locs hP hS => ?_)
  refine lv_aload_n hx hb dX1_value_0 rfl (lv_at hl 0 rfl) ?_
  refine lv_iconst (v := 0) hx hb dX1_value_1 (by decide) ?_
  refine va_put (D := (dC, dI)) (ci := 1) (v := .int 0) (ty := .int) (C := RX1) (T := TX1) (N := 6) hx hb hts hinX1 tyX1 tyX1_ok nmX1 hown hK hP hD hS 0 rfl rfl 4 (by decide) (hts (.fieldLink RX1 25 "MayRings$Law" "top" "I") (List.mem_of_getElem? (i := 1) rfl)) (fun _ h9 => h9) rfl (by decide +kernel) (rfl) (rfl) (Nat.le_of_ble_eq_true rfl) dX1_value_2 (fun H locs hP hD hS => ?_)
  replace hP : va_P (dC, dI) vwCl [(h0, .inr (1, [.ref h1, .ref h2, .ref h3, .int a0, .int 0, .int a2])), (h1, .inl (cI, 360, .inl g0)), (h2, .inl (cI, 40, .inl g1)), (h3, .inl (cI, 16, .inl g2))] H := hP
  replace hD : va_D A [(h0, .inr (1, [.ref h1, .ref h2, .ref h3, .int a0, .int 0, .int a2])), (h1, .inl (cI, 360, .inl g0)), (h2, .inl (cI, 40, .inl g1)), (h3, .inl (cI, 16, .inl g2))] := hD
  refine lv_iconst (v := 0) hx hb dX1_value_5 (by decide) ?_
  refine lv_istore_n (lv' := [(1, .int 0), (0, .ref h0)]) hx hb dX1_value_6 rfl hl (by decide) rfl (fun ls hl => ?_)
  refine W_loopM (σ := (Nat → Int32) × Int32 × Int32) (fun u H locs ls => va_P (dC, dI) vwCl [(h0, .inr (1, [.ref h1, .ref h2, .ref h3, .int a0, .int u.2.2, .int a2])), (h1, .inl (cI, 360, .inl g0)), (h2, .inl (cI, 40, .inl u.1)), (h3, .inl (cI, 16, .inl g2))] H ∧ va_D A [(h0, .inr (1, [.ref h1, .ref h2, .ref h3, .int a0, .int u.2.2, .int a2])), (h1, .inl (cI, 360, .inl g0)), (h2, .inl (cI, 40, .inl u.1)), (h3, .inl (cI, 16, .inl g2))] ∧ va_S A s.heap H locs ∧ lv_has ls 4 [(1, .int u.2.1), (0, .ref h0)] ∧ rg (0) (360) u.2.1 ∧ rg (0) (40) u.2.2) (fun u => ((360) - u.2.1.toInt).toNat) 7 [] ?_ (g1, 0, 0) H locs ls ⟨hP, hD, hS, hl, (rg_mono (rg_k (x := 0) (c := 0) (by decide)) (by decide) (by decide)), (rg_mono (rg_k (x := 0) (c := 0) (by decide)) (by decide) (by decide))⟩
  rintro ⟨f_2199, x_2200, x_2201⟩ H locs ls ⟨hP, hD, hS, hl, hx_2200, hx_2201⟩ ih_2269
  replace hP : va_P (dC, dI) vwCl [(h0, .inr (1, [.ref h1, .ref h2, .ref h3, .int a0, .int x_2201, .int a2])), (h1, .inl (cI, 360, .inl g0)), (h2, .inl (cI, 40, .inl f_2199)), (h3, .inl (cI, 16, .inl g2))] H := hP
  replace hD : va_D A [(h0, .inr (1, [.ref h1, .ref h2, .ref h3, .int a0, .int x_2201, .int a2])), (h1, .inl (cI, 360, .inl g0)), (h2, .inl (cI, 40, .inl f_2199)), (h3, .inl (cI, 16, .inl g2))] := hD
  replace hl : lv_has ls 4 [(1, .int x_2200), (0, .ref h0)] := hl
  replace hx_2200 : rg (0) (360) x_2200 := hx_2200
  replace hx_2201 : rg (0) (40) x_2201 := hx_2201
  refine lv_iload_n hx hb dX1_value_7 rfl (lv_at hl 0 rfl) ?_
  refine lv_aload_n hx hb dX1_value_8 rfl (lv_at hl 1 rfl) ?_
  refine va_get (D := (dC, dI)) (ci := 1) (v := .int a0) (C := RX1) (T := TX1) (N := 6) hx hb hts hinX1 hown hK hP 0 rfl rfl 3 (by decide) (hts (.fieldLink RX1 21 "MayRings$Law" "length" "I") (List.mem_of_getElem? (i := 2) rfl)) (fun _ h9 => h9) rfl dX1_value_9 ?_
  refine lv_icmp_ge (tgt := 120) hx hb dX1_value_12 (by decide) (fun c_2270 => ?_) (fun c_2270 => ?_)
  · skip
    refine lv_aload_n hx hb dX1_value_120 rfl (lv_at hl 1 rfl) ?_
    have hPc := hP.sub (ws' := [(h0, .inr (1, [.ref h1, .ref h2, .ref h3, .int a0, .int x_2201, .int a2])), (h2, .inl (cI, 40, .inl f_2199))]) [0, 2] rfl
    have hDc := hD.sub (ws' := [(h0, .inr (1, [.ref h1, .ref h2, .ref h3, .int a0, .int x_2201, .int a2])), (h2, .inl (cI, 40, .inl f_2199))]) [0, 2] (by decide) rfl
    have hFc := va_free (wc := [(h0, .inr (1, [.ref h1, .ref h2, .ref h3, .int a0, .int x_2201, .int a2])), (h2, .inl (cI, 40, .inl f_2199))]) hD hS hA [0, 2] rfl
    refine va_calli (va_runV (As := []) (rest := []) ⟨hx, hb, hml, hown, hts⟩ (c_s_X1_pop l dC dI cB cI cJ cZ cP h0 h1 h2 f_2199 h3 a0 x_2201 (rg_mono hx_2201 (by decide) (by decide)) a2 H.size) (cwV 0 hts (gd_V (List.mem_of_getElem? (i := 3) rfl) (List.mem_of_getElem? (i := 4) rfl) (List.mem_of_getElem? (i := 5) rfl) (List.mem_of_getElem? (i := 6) rfl) (gd_mono k_s_X1_pop (fun _ h => List.mem_cons_of_mem _ (List.mem_append_right _ (List.mem_append_right _ (List.mem_append_left _ h)))))) rfl rfl rfl (by decide +kernel) ⟨Nat.le_of_ble_eq_true rfl, Nat.le_of_ble_eq_true rfl⟩) ⟨fun a U g mk q => by obtain ⟨q0, q1, qP, qK, qD⟩ := q; exact ⟨q0, q1, qP, va_K.moved (u := U) (U := U.calling g mk a) (Vm.Alike.refl U.vm) qK, qD⟩, va_recv hK hPc (ci := 1) (q0 := 0) rfl rfl, fun U hU hW => ⟨rfl, by rw [hU], by rw [hU]; exact hPc, va_K.moved hW.alike hK, hDc.weaken (fun _ _ _ _ => trivial)⟩⟩ rfl rfl hl.1 rfl (lv_room (Nat.le_of_ble_eq_true rfl)) dX1_value_121 ⟨Nat.le_of_ble_eq_true rfl, Nat.le_of_ble_eq_true rfl⟩) hS (fun q _ h => hFc q h) hFc (fun r_2271 u t H1 locs ht hvm hw hB hz1 hk1 hS => ?_)
    obtain ⟨x_2272, hx_2272, hP1, hD1⟩ := hB
    rw [ht] at hP1
    obtain ⟨hP, hD⟩ := va_join (wr := [(h1, .inl (cI, 360, .inl g0)), (h3, .inl (cI, 16, .inl g2))]) (w1 := [(h0, .inr (1, [.ref h1, .ref h2, .ref h3, .int a0, .int x_2272, .int a2])), (h2, .inl (cI, 40, .inl f_2199))]) hP hD [0, 2] [1, 3] rfl rfl (by decide) (by decide) hk1 hFc hP1 hD1
    generalize H1 = H at hP hS ⊢
    replace hP : va_P (dC, dI) vwCl [(h1, .inl (cI, 360, .inl g0)), (h3, .inl (cI, 16, .inl g2)), (h0, .inr (1, [.ref h1, .ref h2, .ref h3, .int a0, .int x_2272, .int a2])), (h2, .inl (cI, 40, .inl f_2199))] H := hP
    replace hD : va_D A [(h1, .inl (cI, 360, .inl g0)), (h3, .inl (cI, 16, .inl g2)), (h0, .inr (1, [.ref h1, .ref h2, .ref h3, .int a0, .int x_2272, .int a2])), (h2, .inl (cI, 40, .inl f_2199))] := hD
    have hP9 := hP.sub (ws' := [(h0, .inr (1, [.ref h1, .ref h2, .ref h3, .int a0, .int x_2272, .int a2])), (h1, .inl (cI, 360, .inl g0)), (h2, .inl (cI, 40, .inl f_2199)), (h3, .inl (cI, 16, .inl g2))]) [2, 0, 3, 1] rfl
    have hD9 := hD.sub (ws' := [(h0, .inr (1, [.ref h1, .ref h2, .ref h3, .int a0, .int x_2272, .int a2])), (h1, .inl (cI, 360, .inl g0)), (h2, .inl (cI, 40, .inl f_2199)), (h3, .inl (cI, 16, .inl g2))]) [2, 0, 3, 1] (by decide) rfl
    exact W.iret (v := r_2271) hx hb hr (fun t ht hW => ⟨⟨r_2271, (), rfl, trivial, ⟨x_2272, f_2199, (rg_mono hx_2272 (by decide) (by decide)), by rw [ht]; exact hP9, hD9⟩⟩, hS.F ht⟩) hS.2.2 dX1_value_124
  · skip
    have h_2273 : rg (0) (359) x_2200 := by have ha := hx_2200; have hb_ := ha0; simp only [rg, fa_lt, fa_le, fa_eq] at ha hb_ c_2270; simp only [rg]; omega
    have h_2274 : rg (1) (360) a0 := by have ha := h_2273; have hb_ := ha0; have hc_ := c_2270; simp only [rg, fa_lt, fa_le, fa_eq] at ha hb_ hc_; simp only [rg]; omega
    have h_2275 : rg (1) (360) a0 := by have ha := hx_2200; have hb_ := ha0; simp only [rg, fa_lt, fa_le, fa_eq] at ha hb_ c_2270; simp only [rg]; omega
    refine lv_aload_n hx hb dX1_value_15 rfl (lv_at hl 1 rfl) ?_
    refine va_get (D := (dC, dI)) (ci := 1) (v := .ref h1) (C := RX1) (T := TX1) (N := 6) hx hb hts hinX1 hown hK hP 0 rfl rfl 0 (by decide) (hts (.fieldLink RX1 11 "MayRings$Law" "codes" "[I") (List.mem_of_getElem? (i := 7) rfl)) (fun _ h9 => h9) rfl dX1_value_16 ?_
    refine lv_iload_n hx hb dX1_value_19 rfl (lv_at hl 0 rfl) ?_
    refine va_iald hx hb hK hP 1 1 rfl rfl (rg_in (n := 360) (rg_mono h_2273 (by decide) (by decide))) dX1_value_20 ?_
    refine lv_topi (fun x_2276 ex_2276 => ?_)
    refine lv_ineg hx hb dX1_value_21 ?_
    refine lv_topi (fun x_2277 ex_2277 => ?_)
    clear ex_2277
    refine lv_istore_n (lv' := [(2, .int x_2277), (1, .int x_2200), (0, .ref h0)]) hx hb dX1_value_22 rfl hl (by decide) rfl (fun ls hl => ?_)
    refine lv_iload_n hx hb dX1_value_23 rfl (lv_at hl 0 rfl) ?_
    refine lv_if_gt (tgt := 40) hx hb dX1_value_24 (by decide) (fun c_2278 => ?_) (fun c_2278 => ?_)
    · skip
      have h_2279 : rg (1) (2147483647) x_2277 := by have ha := (rg_any x_2277); have hb_ := (rg_k (x := 0) (c := 0) (by decide)); simp only [rg, fa_lt, fa_le, fa_eq, (by decide : (0 : Int32).toInt = 0)] at ha hb_ c_2278; simp only [rg]; omega
      refine lv_iload_n hx hb dX1_value_40 rfl (lv_at hl 0 rfl) ?_
      refine lv_bipush (v := 6) hx hb dX1_value_41 (by decide) ?_
      refine lv_icmp_eq (tgt := 58) hx hb dX1_value_43 (by decide) (fun c_2280 => ?_) (fun c_2280 => ?_)
      · skip
        have h_2281 : rg (6) (6) x_2277 := by have ha := h_2279; have hb_ := (rg_k (x := 6) (c := 6) (by decide)); simp only [rg, fa_lt, fa_le, fa_eq, (by decide : (6 : Int32).toInt = 6)] at ha hb_ c_2280; simp only [rg]; omega
        refine lv_aload_n hx hb dX1_value_58 rfl (lv_at hl 2 rfl) ?_
        refine lv_aload_n hx hb dX1_value_59 rfl (lv_at hl 2 rfl) ?_
        refine va_get (D := (dC, dI)) (ci := 1) (v := .ref h3) (C := RX1) (T := TX1) (N := 6) hx hb hts hinX1 hown hK hP 0 rfl rfl 2 (by decide) (hts (.fieldLink RX1 18 "MayRings$Law" "facts" "[I") (List.mem_of_getElem? (i := 8) rfl)) (fun _ h9 => h9) rfl dX1_value_60 ?_
        refine lv_iload_n hx hb dX1_value_63 rfl (lv_at hl 0 rfl) ?_
        refine va_iald hx hb hK hP 3 1 rfl rfl (rg_in (n := 16) (rg_mono h_2281 (by decide) (by decide))) dX1_value_64 ?_
        refine lv_topi (fun x_2282 ex_2282 => ?_)
        have hPc := hP.sub (ws' := [(h0, .inr (1, [.ref h1, .ref h2, .ref h3, .int a0, .int x_2201, .int a2])), (h2, .inl (cI, 40, .inl f_2199))]) [0, 2] rfl
        have hDc := hD.sub (ws' := [(h0, .inr (1, [.ref h1, .ref h2, .ref h3, .int a0, .int x_2201, .int a2])), (h2, .inl (cI, 40, .inl f_2199))]) [0, 2] (by decide) rfl
        have hFc := va_free (wc := [(h0, .inr (1, [.ref h1, .ref h2, .ref h3, .int a0, .int x_2201, .int a2])), (h2, .inl (cI, 40, .inl f_2199))]) hD hS hA [0, 2] rfl
        refine va_callv (va_runV (As := [.int x_2282]) (rest := []) ⟨hx, hb, hml, hown, hts⟩ (c_s_X1_push l dC dI cB cI cJ cZ cP h0 h1 h2 f_2199 h3 a0 x_2201 (rg_mono hx_2201 (by decide) (by decide)) a2 x_2282 H.size) (cwV 1 hts (gd_V (List.mem_of_getElem? (i := 9) rfl) (List.mem_of_getElem? (i := 10) rfl) (List.mem_of_getElem? (i := 11) rfl) (List.mem_of_getElem? (i := 6) rfl) (gd_mono k_s_X1_push (fun _ h => List.mem_cons_of_mem _ (List.mem_append_right _ (List.mem_append_right _ (List.mem_append_right _ (List.mem_append_left _ h))))))) rfl rfl rfl (by decide +kernel) ⟨Nat.le_of_ble_eq_true rfl, Nat.le_of_ble_eq_true rfl⟩) ⟨fun a U g mk q => by obtain ⟨q0, q1, qP, qK, qD⟩ := q; exact ⟨q0, q1, qP, va_K.moved (u := U) (U := U.calling g mk a) (Vm.Alike.refl U.vm) qK, qD⟩, va_recv hK hPc (ci := 1) (q0 := 0) rfl rfl, fun U hU hW => ⟨rfl, by rw [hU], by rw [hU]; exact hPc, va_K.moved hW.alike hK, hDc.weaken (fun _ _ _ _ => trivial)⟩⟩ rfl rfl hl.1 rfl (lv_room (Nat.le_of_ble_eq_true rfl)) dX1_value_65 ⟨Nat.le_of_ble_eq_true rfl, Nat.le_of_ble_eq_true rfl⟩) hS (fun q _ h => hFc q h) hFc (fun u t H1 locs ht hvm hw hB hz1 hk1 hS => ?_)
        obtain ⟨x_2284, f_2285, hx_2284, hP1, hD1⟩ := hB
        rw [ht] at hP1
        obtain ⟨hP, hD⟩ := va_join (wr := [(h1, .inl (cI, 360, .inl g0)), (h3, .inl (cI, 16, .inl g2))]) (w1 := [(h0, .inr (1, [.ref h1, .ref h2, .ref h3, .int a0, .int x_2284, .int a2])), (h2, .inl (cI, 40, .inl f_2285))]) hP hD [0, 2] [1, 3] rfl rfl (by decide) (by decide) hk1 hFc hP1 hD1
        generalize H1 = H at hP hS ⊢
        replace hP : va_P (dC, dI) vwCl [(h1, .inl (cI, 360, .inl g0)), (h3, .inl (cI, 16, .inl g2)), (h0, .inr (1, [.ref h1, .ref h2, .ref h3, .int a0, .int x_2284, .int a2])), (h2, .inl (cI, 40, .inl f_2285))] H := hP
        replace hD : va_D A [(h1, .inl (cI, 360, .inl g0)), (h3, .inl (cI, 16, .inl g2)), (h0, .inr (1, [.ref h1, .ref h2, .ref h3, .int a0, .int x_2284, .int a2])), (h2, .inl (cI, 40, .inl f_2285))] := hD
        refine lv_goto (tgt := 114) hx hb dX1_value_68 (by decide) ?_
        obtain ⟨x_2286, ex_2286⟩ : ∃ y : Int32, y = x_2200 + Int32.ofInt (1) := ⟨_, rfl⟩
        have hx_2286 : rg (1) (360) x_2286 := by rw [ex_2286]; exact rg_mono (rg_add h_2273 (rg_k (x := Int32.ofInt (1)) (c := 1) (by decide)) (by decide) (by decide)) (by decide) (by decide)
        have qx_2286 : x_2286.toInt = x_2200.toInt + (1) := by rw [ex_2286]; exact rg_addE h_2273 (rg_k (x := Int32.ofInt (1)) (c := 1) (by decide)) (by decide) (by decide) (by decide)
        refine lv_iinc (v := x_2286) (lv' := [(1, .int x_2286), (2, .int x_2277), (0, .ref h0)]) hx hb dX1_value_114 hl (k := 1) rfl (ex_2286.symm) (by decide) rfl (fun ls hl => ?_)
        clear ex_2286
        refine lv_goto (tgt := 7) hx hb dX1_value_117 (by decide) ?_
        exact ih_2269 (f_2285, x_2286, x_2284) H locs ls ⟨hP.sub (ws' := [(h0, .inr (1, [.ref h1, .ref h2, .ref h3, .int a0, .int x_2284, .int a2])), (h1, .inl (cI, 360, .inl g0)), (h2, .inl (cI, 40, .inl f_2285)), (h3, .inl (cI, 16, .inl g2))]) [2, 0, 3, 1] rfl, hD.sub (ws' := [(h0, .inr (1, [.ref h1, .ref h2, .ref h3, .int a0, .int x_2284, .int a2])), (h1, .inl (cI, 360, .inl g0)), (h2, .inl (cI, 40, .inl f_2285)), (h3, .inl (cI, 16, .inl g2))]) [2, 0, 3, 1] (by decide) rfl, hS, lv_sub hl [0, 2] rfl, (rg_mono hx_2286 (by decide) (by decide)), (rg_mono hx_2284 (by decide) (by decide))⟩ (by show ((360) - x_2286.toInt).toNat < ((360) - x_2200.toInt).toNat; have ha := h_2273; simp only [rg] at ha; omega)
      · skip
        refine lv_iload_n hx hb dX1_value_46 rfl (lv_at hl 0 rfl) ?_
        refine lv_bipush (v := 12) hx hb dX1_value_47 (by decide) ?_
        refine lv_icmp_lt (tgt := 71) hx hb dX1_value_49 (by decide) (fun c_2287 => ?_) (fun c_2287 => ?_)
        · skip
          have h_2288 : rg (1) (11) x_2277 := by have ha := h_2279; have hb_ := (rg_k (x := 12) (c := 12) (by decide)); simp only [rg, fa_lt, fa_le, fa_eq, (by decide : (12 : Int32).toInt = 12)] at ha hb_ c_2287; simp only [rg]; omega
          refine lv_iload_n hx hb dX1_value_71 rfl (lv_at hl 0 rfl) ?_
          refine lv_bipush (v := 11) hx hb dX1_value_72 (by decide) ?_
          refine lv_icmp_ne (tgt := 96) hx hb dX1_value_74 (by decide) (fun c_2289 => ?_) (fun c_2289 => ?_)
          · skip
            have h_2290 : rg (1) (10) x_2277 := by have ha := h_2288; have hb_ := (rg_k (x := 11) (c := 11) (by decide)); simp only [rg, fa_lt, fa_le, fa_eq, (by decide : (11 : Int32).toInt = 11)] at ha hb_ c_2289; simp only [rg]; omega
            refine lv_aload_n hx hb dX1_value_96 rfl (lv_at hl 2 rfl) ?_
            have hPc := hP.sub (ws' := [(h0, .inr (1, [.ref h1, .ref h2, .ref h3, .int a0, .int x_2201, .int a2])), (h2, .inl (cI, 40, .inl f_2199))]) [0, 2] rfl
            have hDc := hD.sub (ws' := [(h0, .inr (1, [.ref h1, .ref h2, .ref h3, .int a0, .int x_2201, .int a2])), (h2, .inl (cI, 40, .inl f_2199))]) [0, 2] (by decide) rfl
            have hFc := va_free (wc := [(h0, .inr (1, [.ref h1, .ref h2, .ref h3, .int a0, .int x_2201, .int a2])), (h2, .inl (cI, 40, .inl f_2199))]) hD hS hA [0, 2] rfl
            refine va_calli (va_runV (As := []) (rest := []) ⟨hx, hb, hml, hown, hts⟩ (c_s_X1_pop l dC dI cB cI cJ cZ cP h0 h1 h2 f_2199 h3 a0 x_2201 (rg_mono hx_2201 (by decide) (by decide)) a2 H.size) (cwV 0 hts (gd_V (List.mem_of_getElem? (i := 3) rfl) (List.mem_of_getElem? (i := 4) rfl) (List.mem_of_getElem? (i := 5) rfl) (List.mem_of_getElem? (i := 6) rfl) (gd_mono k_s_X1_pop (fun _ h => List.mem_cons_of_mem _ (List.mem_append_right _ (List.mem_append_right _ (List.mem_append_left _ h)))))) rfl rfl rfl (by decide +kernel) ⟨Nat.le_of_ble_eq_true rfl, Nat.le_of_ble_eq_true rfl⟩) ⟨fun a U g mk q => by obtain ⟨q0, q1, qP, qK, qD⟩ := q; exact ⟨q0, q1, qP, va_K.moved (u := U) (U := U.calling g mk a) (Vm.Alike.refl U.vm) qK, qD⟩, va_recv hK hPc (ci := 1) (q0 := 0) rfl rfl, fun U hU hW => ⟨rfl, by rw [hU], by rw [hU]; exact hPc, va_K.moved hW.alike hK, hDc.weaken (fun _ _ _ _ => trivial)⟩⟩ rfl rfl hl.1 rfl (lv_room (Nat.le_of_ble_eq_true rfl)) dX1_value_97 ⟨Nat.le_of_ble_eq_true rfl, Nat.le_of_ble_eq_true rfl⟩) hS (fun q _ h => hFc q h) hFc (fun r_2291 u t H1 locs ht hvm hw hB hz1 hk1 hS => ?_)
            obtain ⟨x_2292, hx_2292, hP1, hD1⟩ := hB
            rw [ht] at hP1
            obtain ⟨hP, hD⟩ := va_join (wr := [(h1, .inl (cI, 360, .inl g0)), (h3, .inl (cI, 16, .inl g2))]) (w1 := [(h0, .inr (1, [.ref h1, .ref h2, .ref h3, .int a0, .int x_2292, .int a2])), (h2, .inl (cI, 40, .inl f_2199))]) hP hD [0, 2] [1, 3] rfl rfl (by decide) (by decide) hk1 hFc hP1 hD1
            generalize H1 = H at hP hS ⊢
            replace hP : va_P (dC, dI) vwCl [(h1, .inl (cI, 360, .inl g0)), (h3, .inl (cI, 16, .inl g2)), (h0, .inr (1, [.ref h1, .ref h2, .ref h3, .int a0, .int x_2292, .int a2])), (h2, .inl (cI, 40, .inl f_2199))] H := hP
            replace hD : va_D A [(h1, .inl (cI, 360, .inl g0)), (h3, .inl (cI, 16, .inl g2)), (h0, .inr (1, [.ref h1, .ref h2, .ref h3, .int a0, .int x_2292, .int a2])), (h2, .inl (cI, 40, .inl f_2199))] := hD
            refine lv_istore_n (lv' := [(3, .int r_2291), (2, .int x_2277), (1, .int x_2200), (0, .ref h0)]) hx hb dX1_value_100 rfl hl (by decide) rfl (fun ls hl => ?_)
            refine lv_aload_n hx hb dX1_value_101 rfl (lv_at hl 3 rfl) ?_
            refine lv_iload_n hx hb dX1_value_102 rfl (lv_at hl 1 rfl) ?_
            refine lv_aload_n hx hb dX1_value_103 rfl (lv_at hl 3 rfl) ?_
            have hPc := hP.sub (ws' := [(h0, .inr (1, [.ref h1, .ref h2, .ref h3, .int a0, .int x_2292, .int a2])), (h2, .inl (cI, 40, .inl f_2199))]) [2, 3] rfl
            have hDc := hD.sub (ws' := [(h0, .inr (1, [.ref h1, .ref h2, .ref h3, .int a0, .int x_2292, .int a2])), (h2, .inl (cI, 40, .inl f_2199))]) [2, 3] (by decide) rfl
            have hFc := va_free (wc := [(h0, .inr (1, [.ref h1, .ref h2, .ref h3, .int a0, .int x_2292, .int a2])), (h2, .inl (cI, 40, .inl f_2199))]) hD hS hA [2, 3] rfl
            refine va_calli (va_runV (As := []) (rest := [.int x_2277, .ref h0]) ⟨hx, hb, hml, hown, hts⟩ (c_s_X1_pop l dC dI cB cI cJ cZ cP h0 h1 h2 f_2199 h3 a0 x_2292 (rg_mono hx_2292 (by decide) (by decide)) a2 H.size) (cwV 0 hts (gd_V (List.mem_of_getElem? (i := 3) rfl) (List.mem_of_getElem? (i := 4) rfl) (List.mem_of_getElem? (i := 5) rfl) (List.mem_of_getElem? (i := 6) rfl) (gd_mono k_s_X1_pop (fun _ h => List.mem_cons_of_mem _ (List.mem_append_right _ (List.mem_append_right _ (List.mem_append_left _ h)))))) rfl rfl rfl (by decide +kernel) ⟨Nat.le_of_ble_eq_true rfl, Nat.le_of_ble_eq_true rfl⟩) ⟨fun a U g mk q => by obtain ⟨q0, q1, qP, qK, qD⟩ := q; exact ⟨q0, q1, qP, va_K.moved (u := U) (U := U.calling g mk a) (Vm.Alike.refl U.vm) qK, qD⟩, va_recv hK hPc (ci := 1) (q0 := 0) rfl rfl, fun U hU hW => ⟨rfl, by rw [hU], by rw [hU]; exact hPc, va_K.moved hW.alike hK, hDc.weaken (fun _ _ _ _ => trivial)⟩⟩ rfl rfl hl.1 rfl (lv_room (Nat.le_of_ble_eq_true rfl)) dX1_value_104 ⟨Nat.le_of_ble_eq_true rfl, Nat.le_of_ble_eq_true rfl⟩) hS (fun q _ h => hFc q h) hFc (fun r_2293 u t H1 locs ht hvm hw hB hz1 hk1 hS => ?_)
            obtain ⟨x_2294, hx_2294, hP1, hD1⟩ := hB
            rw [ht] at hP1
            obtain ⟨hP, hD⟩ := va_join (wr := [(h1, .inl (cI, 360, .inl g0)), (h3, .inl (cI, 16, .inl g2))]) (w1 := [(h0, .inr (1, [.ref h1, .ref h2, .ref h3, .int a0, .int x_2294, .int a2])), (h2, .inl (cI, 40, .inl f_2199))]) hP hD [2, 3] [0, 1] rfl rfl (by decide) (by decide) hk1 hFc hP1 hD1
            generalize H1 = H at hP hS ⊢
            replace hP : va_P (dC, dI) vwCl [(h1, .inl (cI, 360, .inl g0)), (h3, .inl (cI, 16, .inl g2)), (h0, .inr (1, [.ref h1, .ref h2, .ref h3, .int a0, .int x_2294, .int a2])), (h2, .inl (cI, 40, .inl f_2199))] H := hP
            replace hD : va_D A [(h1, .inl (cI, 360, .inl g0)), (h3, .inl (cI, 16, .inl g2)), (h0, .inr (1, [.ref h1, .ref h2, .ref h3, .int a0, .int x_2294, .int a2])), (h2, .inl (cI, 40, .inl f_2199))] := hD
            refine lv_iload_n hx hb dX1_value_107 rfl (lv_at hl 0 rfl) ?_
            have hPc := hP.sub (ws' := []) [] rfl
            have hDc := hD.sub (ws' := []) [] (by decide) rfl
            have hFc := va_free (wc := []) hD hS hA [] rfl
            refine va_calli (va_runS (As := [.int x_2277, .int r_2293, .int r_2291]) (rest := [.ref h0]) ⟨hx, hb, hml, hown, hts⟩ (c_s_X1_joined l dC dI cB cI cJ cZ cP x_2277 r_2293 r_2291 H.size) (va_cwS 3 hts (gd_S (List.mem_of_getElem? (i := 12) rfl) (List.mem_of_getElem? (i := 13) rfl) (List.mem_of_getElem? (i := 6) rfl) (gd_mono k_s_X1_joined (fun _ h => List.mem_cons_of_mem _ (List.mem_append_right _ (List.mem_append_right _ (List.mem_append_right _ (List.mem_append_right _ (List.mem_append_left _ h)))))))) rfl rfl rfl (by decide +kernel) ⟨Nat.le_of_ble_eq_true rfl, Nat.le_of_ble_eq_true rfl⟩) ⟨fun a U g mk q => by obtain ⟨q0, q1, qP, qK, qD⟩ := q; exact ⟨q0, q1, qP, va_K.moved (u := U) (U := U.calling g mk a) (Vm.Alike.refl U.vm) qK, qD⟩, fun U hU hW => ⟨rfl, by rw [hU], by rw [hU]; exact hPc, va_K.moved hW.alike hK, hDc.weaken (fun _ _ _ _ => trivial)⟩⟩ rfl rfl hl.1 rfl (lv_room (Nat.le_of_ble_eq_true rfl)) dX1_value_108 ⟨Nat.le_of_ble_eq_true rfl, Nat.le_of_ble_eq_true rfl⟩) hS (fun q _ h => hFc q h) hFc (fun r_2295 u t H1 locs ht hvm hw hB hz1 hk1 hS => ?_)
            obtain ⟨hP1, hD1⟩ := hB
            rw [ht] at hP1
            obtain ⟨hP, hD⟩ := va_join (wr := [(h1, .inl (cI, 360, .inl g0)), (h3, .inl (cI, 16, .inl g2)), (h0, .inr (1, [.ref h1, .ref h2, .ref h3, .int a0, .int x_2294, .int a2])), (h2, .inl (cI, 40, .inl f_2199))]) (w1 := []) hP hD [] [0, 1, 2, 3] rfl rfl (by decide) (by decide) hk1 hFc hP1 hD1
            generalize H1 = H at hP hS ⊢
            replace hP : va_P (dC, dI) vwCl [(h1, .inl (cI, 360, .inl g0)), (h3, .inl (cI, 16, .inl g2)), (h0, .inr (1, [.ref h1, .ref h2, .ref h3, .int a0, .int x_2294, .int a2])), (h2, .inl (cI, 40, .inl f_2199))] H := hP
            replace hD : va_D A [(h1, .inl (cI, 360, .inl g0)), (h3, .inl (cI, 16, .inl g2)), (h0, .inr (1, [.ref h1, .ref h2, .ref h3, .int a0, .int x_2294, .int a2])), (h2, .inl (cI, 40, .inl f_2199))] := hD
            have hPc := hP.sub (ws' := [(h0, .inr (1, [.ref h1, .ref h2, .ref h3, .int a0, .int x_2294, .int a2])), (h2, .inl (cI, 40, .inl f_2199))]) [2, 3] rfl
            have hDc := hD.sub (ws' := [(h0, .inr (1, [.ref h1, .ref h2, .ref h3, .int a0, .int x_2294, .int a2])), (h2, .inl (cI, 40, .inl f_2199))]) [2, 3] (by decide) rfl
            have hFc := va_free (wc := [(h0, .inr (1, [.ref h1, .ref h2, .ref h3, .int a0, .int x_2294, .int a2])), (h2, .inl (cI, 40, .inl f_2199))]) hD hS hA [2, 3] rfl
            refine va_callv (va_runV (As := [.int r_2295]) (rest := []) ⟨hx, hb, hml, hown, hts⟩ (c_s_X1_push l dC dI cB cI cJ cZ cP h0 h1 h2 f_2199 h3 a0 x_2294 (rg_mono hx_2294 (by decide) (by decide)) a2 r_2295 H.size) (cwV 1 hts (gd_V (List.mem_of_getElem? (i := 9) rfl) (List.mem_of_getElem? (i := 10) rfl) (List.mem_of_getElem? (i := 11) rfl) (List.mem_of_getElem? (i := 6) rfl) (gd_mono k_s_X1_push (fun _ h => List.mem_cons_of_mem _ (List.mem_append_right _ (List.mem_append_right _ (List.mem_append_right _ (List.mem_append_left _ h))))))) rfl rfl rfl (by decide +kernel) ⟨Nat.le_of_ble_eq_true rfl, Nat.le_of_ble_eq_true rfl⟩) ⟨fun a U g mk q => by obtain ⟨q0, q1, qP, qK, qD⟩ := q; exact ⟨q0, q1, qP, va_K.moved (u := U) (U := U.calling g mk a) (Vm.Alike.refl U.vm) qK, qD⟩, va_recv hK hPc (ci := 1) (q0 := 0) rfl rfl, fun U hU hW => ⟨rfl, by rw [hU], by rw [hU]; exact hPc, va_K.moved hW.alike hK, hDc.weaken (fun _ _ _ _ => trivial)⟩⟩ rfl rfl hl.1 rfl (lv_room (Nat.le_of_ble_eq_true rfl)) dX1_value_111 ⟨Nat.le_of_ble_eq_true rfl, Nat.le_of_ble_eq_true rfl⟩) hS (fun q _ h => hFc q h) hFc (fun u t H1 locs ht hvm hw hB hz1 hk1 hS => ?_)
            obtain ⟨x_2297, f_2298, hx_2297, hP1, hD1⟩ := hB
            rw [ht] at hP1
            obtain ⟨hP, hD⟩ := va_join (wr := [(h1, .inl (cI, 360, .inl g0)), (h3, .inl (cI, 16, .inl g2))]) (w1 := [(h0, .inr (1, [.ref h1, .ref h2, .ref h3, .int a0, .int x_2297, .int a2])), (h2, .inl (cI, 40, .inl f_2298))]) hP hD [2, 3] [0, 1] rfl rfl (by decide) (by decide) hk1 hFc hP1 hD1
            generalize H1 = H at hP hS ⊢
            replace hP : va_P (dC, dI) vwCl [(h1, .inl (cI, 360, .inl g0)), (h3, .inl (cI, 16, .inl g2)), (h0, .inr (1, [.ref h1, .ref h2, .ref h3, .int a0, .int x_2297, .int a2])), (h2, .inl (cI, 40, .inl f_2298))] H := hP
            replace hD : va_D A [(h1, .inl (cI, 360, .inl g0)), (h3, .inl (cI, 16, .inl g2)), (h0, .inr (1, [.ref h1, .ref h2, .ref h3, .int a0, .int x_2297, .int a2])), (h2, .inl (cI, 40, .inl f_2298))] := hD
            obtain ⟨x_2299, ex_2299⟩ : ∃ y : Int32, y = x_2200 + Int32.ofInt (1) := ⟨_, rfl⟩
            have hx_2299 : rg (1) (360) x_2299 := by rw [ex_2299]; exact rg_mono (rg_add h_2273 (rg_k (x := Int32.ofInt (1)) (c := 1) (by decide)) (by decide) (by decide)) (by decide) (by decide)
            have qx_2299 : x_2299.toInt = x_2200.toInt + (1) := by rw [ex_2299]; exact rg_addE h_2273 (rg_k (x := Int32.ofInt (1)) (c := 1) (by decide)) (by decide) (by decide) (by decide)
            refine lv_iinc (v := x_2299) (lv' := [(1, .int x_2299), (3, .int r_2291), (2, .int x_2277), (0, .ref h0)]) hx hb dX1_value_114 hl (k := 2) rfl (ex_2299.symm) (by decide) rfl (fun ls hl => ?_)
            clear ex_2299
            refine lv_goto (tgt := 7) hx hb dX1_value_117 (by decide) ?_
            exact ih_2269 (f_2298, x_2299, x_2297) H locs ls ⟨hP.sub (ws' := [(h0, .inr (1, [.ref h1, .ref h2, .ref h3, .int a0, .int x_2297, .int a2])), (h1, .inl (cI, 360, .inl g0)), (h2, .inl (cI, 40, .inl f_2298)), (h3, .inl (cI, 16, .inl g2))]) [2, 0, 3, 1] rfl, hD.sub (ws' := [(h0, .inr (1, [.ref h1, .ref h2, .ref h3, .int a0, .int x_2297, .int a2])), (h1, .inl (cI, 360, .inl g0)), (h2, .inl (cI, 40, .inl f_2298)), (h3, .inl (cI, 16, .inl g2))]) [2, 0, 3, 1] (by decide) rfl, hS, lv_sub hl [0, 3] rfl, (rg_mono hx_2299 (by decide) (by decide)), (rg_mono hx_2297 (by decide) (by decide))⟩ (by show ((360) - x_2299.toInt).toNat < ((360) - x_2200.toInt).toNat; have ha := h_2273; simp only [rg] at ha; omega)
          · skip
            have h_2300 : rg (11) (11) x_2277 := by have ha := h_2288; have hb_ := (rg_k (x := 11) (c := 11) (by decide)); simp only [rg, fa_lt, fa_le, fa_eq, (by decide : (11 : Int32).toInt = 11)] at ha hb_ c_2289; simp only [rg]; omega
            refine lv_aload_n hx hb dX1_value_77 rfl (lv_at hl 2 rfl) ?_
            refine lv_aload_n hx hb dX1_value_78 rfl (lv_at hl 2 rfl) ?_
            have hPc := hP.sub (ws' := [(h0, .inr (1, [.ref h1, .ref h2, .ref h3, .int a0, .int x_2201, .int a2])), (h2, .inl (cI, 40, .inl f_2199))]) [0, 2] rfl
            have hDc := hD.sub (ws' := [(h0, .inr (1, [.ref h1, .ref h2, .ref h3, .int a0, .int x_2201, .int a2])), (h2, .inl (cI, 40, .inl f_2199))]) [0, 2] (by decide) rfl
            have hFc := va_free (wc := [(h0, .inr (1, [.ref h1, .ref h2, .ref h3, .int a0, .int x_2201, .int a2])), (h2, .inl (cI, 40, .inl f_2199))]) hD hS hA [0, 2] rfl
            refine va_calli (va_runV (As := []) (rest := [.ref h0]) ⟨hx, hb, hml, hown, hts⟩ (c_s_X1_pop l dC dI cB cI cJ cZ cP h0 h1 h2 f_2199 h3 a0 x_2201 (rg_mono hx_2201 (by decide) (by decide)) a2 H.size) (cwV 0 hts (gd_V (List.mem_of_getElem? (i := 3) rfl) (List.mem_of_getElem? (i := 4) rfl) (List.mem_of_getElem? (i := 5) rfl) (List.mem_of_getElem? (i := 6) rfl) (gd_mono k_s_X1_pop (fun _ h => List.mem_cons_of_mem _ (List.mem_append_right _ (List.mem_append_right _ (List.mem_append_left _ h)))))) rfl rfl rfl (by decide +kernel) ⟨Nat.le_of_ble_eq_true rfl, Nat.le_of_ble_eq_true rfl⟩) ⟨fun a U g mk q => by obtain ⟨q0, q1, qP, qK, qD⟩ := q; exact ⟨q0, q1, qP, va_K.moved (u := U) (U := U.calling g mk a) (Vm.Alike.refl U.vm) qK, qD⟩, va_recv hK hPc (ci := 1) (q0 := 0) rfl rfl, fun U hU hW => ⟨rfl, by rw [hU], by rw [hU]; exact hPc, va_K.moved hW.alike hK, hDc.weaken (fun _ _ _ _ => trivial)⟩⟩ rfl rfl hl.1 rfl (lv_room (Nat.le_of_ble_eq_true rfl)) dX1_value_79 ⟨Nat.le_of_ble_eq_true rfl, Nat.le_of_ble_eq_true rfl⟩) hS (fun q _ h => hFc q h) hFc (fun r_2301 u t H1 locs ht hvm hw hB hz1 hk1 hS => ?_)
            obtain ⟨x_2302, hx_2302, hP1, hD1⟩ := hB
            rw [ht] at hP1
            obtain ⟨hP, hD⟩ := va_join (wr := [(h1, .inl (cI, 360, .inl g0)), (h3, .inl (cI, 16, .inl g2))]) (w1 := [(h0, .inr (1, [.ref h1, .ref h2, .ref h3, .int a0, .int x_2302, .int a2])), (h2, .inl (cI, 40, .inl f_2199))]) hP hD [0, 2] [1, 3] rfl rfl (by decide) (by decide) hk1 hFc hP1 hD1
            generalize H1 = H at hP hS ⊢
            replace hP : va_P (dC, dI) vwCl [(h1, .inl (cI, 360, .inl g0)), (h3, .inl (cI, 16, .inl g2)), (h0, .inr (1, [.ref h1, .ref h2, .ref h3, .int a0, .int x_2302, .int a2])), (h2, .inl (cI, 40, .inl f_2199))] H := hP
            replace hD : va_D A [(h1, .inl (cI, 360, .inl g0)), (h3, .inl (cI, 16, .inl g2)), (h0, .inr (1, [.ref h1, .ref h2, .ref h3, .int a0, .int x_2302, .int a2])), (h2, .inl (cI, 40, .inl f_2199))] := hD
            refine lv_if_ne (tgt := 89) hx hb dX1_value_82 (by decide) (fun c_2303 => ?_) (fun c_2303 => ?_)
            · skip
              refine lv_iconst (v := 0) hx hb dX1_value_89 (by decide) ?_
              have hPc := hP.sub (ws' := [(h0, .inr (1, [.ref h1, .ref h2, .ref h3, .int a0, .int x_2302, .int a2])), (h2, .inl (cI, 40, .inl f_2199))]) [2, 3] rfl
              have hDc := hD.sub (ws' := [(h0, .inr (1, [.ref h1, .ref h2, .ref h3, .int a0, .int x_2302, .int a2])), (h2, .inl (cI, 40, .inl f_2199))]) [2, 3] (by decide) rfl
              have hFc := va_free (wc := [(h0, .inr (1, [.ref h1, .ref h2, .ref h3, .int a0, .int x_2302, .int a2])), (h2, .inl (cI, 40, .inl f_2199))]) hD hS hA [2, 3] rfl
              refine va_callv (va_runV (As := [.int 0]) (rest := []) ⟨hx, hb, hml, hown, hts⟩ (c_s_X1_push l dC dI cB cI cJ cZ cP h0 h1 h2 f_2199 h3 a0 x_2302 (rg_mono hx_2302 (by decide) (by decide)) a2 0 H.size) (cwV 1 hts (gd_V (List.mem_of_getElem? (i := 9) rfl) (List.mem_of_getElem? (i := 10) rfl) (List.mem_of_getElem? (i := 11) rfl) (List.mem_of_getElem? (i := 6) rfl) (gd_mono k_s_X1_push (fun _ h => List.mem_cons_of_mem _ (List.mem_append_right _ (List.mem_append_right _ (List.mem_append_right _ (List.mem_append_left _ h))))))) rfl rfl rfl (by decide +kernel) ⟨Nat.le_of_ble_eq_true rfl, Nat.le_of_ble_eq_true rfl⟩) ⟨fun a U g mk q => by obtain ⟨q0, q1, qP, qK, qD⟩ := q; exact ⟨q0, q1, qP, va_K.moved (u := U) (U := U.calling g mk a) (Vm.Alike.refl U.vm) qK, qD⟩, va_recv hK hPc (ci := 1) (q0 := 0) rfl rfl, fun U hU hW => ⟨rfl, by rw [hU], by rw [hU]; exact hPc, va_K.moved hW.alike hK, hDc.weaken (fun _ _ _ _ => trivial)⟩⟩ rfl rfl hl.1 rfl (lv_room (Nat.le_of_ble_eq_true rfl)) dX1_value_90 ⟨Nat.le_of_ble_eq_true rfl, Nat.le_of_ble_eq_true rfl⟩) hS (fun q _ h => hFc q h) hFc (fun u t H1 locs ht hvm hw hB hz1 hk1 hS => ?_)
              obtain ⟨x_2305, f_2306, hx_2305, hP1, hD1⟩ := hB
              rw [ht] at hP1
              obtain ⟨hP, hD⟩ := va_join (wr := [(h1, .inl (cI, 360, .inl g0)), (h3, .inl (cI, 16, .inl g2))]) (w1 := [(h0, .inr (1, [.ref h1, .ref h2, .ref h3, .int a0, .int x_2305, .int a2])), (h2, .inl (cI, 40, .inl f_2306))]) hP hD [2, 3] [0, 1] rfl rfl (by decide) (by decide) hk1 hFc hP1 hD1
              generalize H1 = H at hP hS ⊢
              replace hP : va_P (dC, dI) vwCl [(h1, .inl (cI, 360, .inl g0)), (h3, .inl (cI, 16, .inl g2)), (h0, .inr (1, [.ref h1, .ref h2, .ref h3, .int a0, .int x_2305, .int a2])), (h2, .inl (cI, 40, .inl f_2306))] H := hP
              replace hD : va_D A [(h1, .inl (cI, 360, .inl g0)), (h3, .inl (cI, 16, .inl g2)), (h0, .inr (1, [.ref h1, .ref h2, .ref h3, .int a0, .int x_2305, .int a2])), (h2, .inl (cI, 40, .inl f_2306))] := hD
              refine lv_goto (tgt := 114) hx hb dX1_value_93 (by decide) ?_
              obtain ⟨x_2307, ex_2307⟩ : ∃ y : Int32, y = x_2200 + Int32.ofInt (1) := ⟨_, rfl⟩
              have hx_2307 : rg (1) (360) x_2307 := by rw [ex_2307]; exact rg_mono (rg_add h_2273 (rg_k (x := Int32.ofInt (1)) (c := 1) (by decide)) (by decide) (by decide)) (by decide) (by decide)
              have qx_2307 : x_2307.toInt = x_2200.toInt + (1) := by rw [ex_2307]; exact rg_addE h_2273 (rg_k (x := Int32.ofInt (1)) (c := 1) (by decide)) (by decide) (by decide) (by decide)
              refine lv_iinc (v := x_2307) (lv' := [(1, .int x_2307), (2, .int x_2277), (0, .ref h0)]) hx hb dX1_value_114 hl (k := 1) rfl (ex_2307.symm) (by decide) rfl (fun ls hl => ?_)
              clear ex_2307
              refine lv_goto (tgt := 7) hx hb dX1_value_117 (by decide) ?_
              exact ih_2269 (f_2306, x_2307, x_2305) H locs ls ⟨hP.sub (ws' := [(h0, .inr (1, [.ref h1, .ref h2, .ref h3, .int a0, .int x_2305, .int a2])), (h1, .inl (cI, 360, .inl g0)), (h2, .inl (cI, 40, .inl f_2306)), (h3, .inl (cI, 16, .inl g2))]) [2, 0, 3, 1] rfl, hD.sub (ws' := [(h0, .inr (1, [.ref h1, .ref h2, .ref h3, .int a0, .int x_2305, .int a2])), (h1, .inl (cI, 360, .inl g0)), (h2, .inl (cI, 40, .inl f_2306)), (h3, .inl (cI, 16, .inl g2))]) [2, 0, 3, 1] (by decide) rfl, hS, lv_sub hl [0, 2] rfl, (rg_mono hx_2307 (by decide) (by decide)), (rg_mono hx_2305 (by decide) (by decide))⟩ (by show ((360) - x_2307.toInt).toNat < ((360) - x_2200.toInt).toNat; have ha := h_2273; simp only [rg] at ha; omega)
            · skip
              have h_2308 : rg (0) (0) r_2301 := by have ha := (rg_any r_2301); have hb_ := (rg_k (x := 0) (c := 0) (by decide)); simp only [rg, fa_lt, fa_le, fa_eq, (by decide : (0 : Int32).toInt = 0)] at ha hb_ c_2303; simp only [rg]; omega
              refine lv_iconst (v := 1) hx hb dX1_value_85 (by decide) ?_
              refine lv_goto (tgt := 90) hx hb dX1_value_86 (by decide) ?_
              have hPc := hP.sub (ws' := [(h0, .inr (1, [.ref h1, .ref h2, .ref h3, .int a0, .int x_2302, .int a2])), (h2, .inl (cI, 40, .inl f_2199))]) [2, 3] rfl
              have hDc := hD.sub (ws' := [(h0, .inr (1, [.ref h1, .ref h2, .ref h3, .int a0, .int x_2302, .int a2])), (h2, .inl (cI, 40, .inl f_2199))]) [2, 3] (by decide) rfl
              have hFc := va_free (wc := [(h0, .inr (1, [.ref h1, .ref h2, .ref h3, .int a0, .int x_2302, .int a2])), (h2, .inl (cI, 40, .inl f_2199))]) hD hS hA [2, 3] rfl
              refine va_callv (va_runV (As := [.int 1]) (rest := []) ⟨hx, hb, hml, hown, hts⟩ (c_s_X1_push l dC dI cB cI cJ cZ cP h0 h1 h2 f_2199 h3 a0 x_2302 (rg_mono hx_2302 (by decide) (by decide)) a2 1 H.size) (cwV 1 hts (gd_V (List.mem_of_getElem? (i := 9) rfl) (List.mem_of_getElem? (i := 10) rfl) (List.mem_of_getElem? (i := 11) rfl) (List.mem_of_getElem? (i := 6) rfl) (gd_mono k_s_X1_push (fun _ h => List.mem_cons_of_mem _ (List.mem_append_right _ (List.mem_append_right _ (List.mem_append_right _ (List.mem_append_left _ h))))))) rfl rfl rfl (by decide +kernel) ⟨Nat.le_of_ble_eq_true rfl, Nat.le_of_ble_eq_true rfl⟩) ⟨fun a U g mk q => by obtain ⟨q0, q1, qP, qK, qD⟩ := q; exact ⟨q0, q1, qP, va_K.moved (u := U) (U := U.calling g mk a) (Vm.Alike.refl U.vm) qK, qD⟩, va_recv hK hPc (ci := 1) (q0 := 0) rfl rfl, fun U hU hW => ⟨rfl, by rw [hU], by rw [hU]; exact hPc, va_K.moved hW.alike hK, hDc.weaken (fun _ _ _ _ => trivial)⟩⟩ rfl rfl hl.1 rfl (lv_room (Nat.le_of_ble_eq_true rfl)) dX1_value_90 ⟨Nat.le_of_ble_eq_true rfl, Nat.le_of_ble_eq_true rfl⟩) hS (fun q _ h => hFc q h) hFc (fun u t H1 locs ht hvm hw hB hz1 hk1 hS => ?_)
              obtain ⟨x_2310, f_2311, hx_2310, hP1, hD1⟩ := hB
              rw [ht] at hP1
              obtain ⟨hP, hD⟩ := va_join (wr := [(h1, .inl (cI, 360, .inl g0)), (h3, .inl (cI, 16, .inl g2))]) (w1 := [(h0, .inr (1, [.ref h1, .ref h2, .ref h3, .int a0, .int x_2310, .int a2])), (h2, .inl (cI, 40, .inl f_2311))]) hP hD [2, 3] [0, 1] rfl rfl (by decide) (by decide) hk1 hFc hP1 hD1
              generalize H1 = H at hP hS ⊢
              replace hP : va_P (dC, dI) vwCl [(h1, .inl (cI, 360, .inl g0)), (h3, .inl (cI, 16, .inl g2)), (h0, .inr (1, [.ref h1, .ref h2, .ref h3, .int a0, .int x_2310, .int a2])), (h2, .inl (cI, 40, .inl f_2311))] H := hP
              replace hD : va_D A [(h1, .inl (cI, 360, .inl g0)), (h3, .inl (cI, 16, .inl g2)), (h0, .inr (1, [.ref h1, .ref h2, .ref h3, .int a0, .int x_2310, .int a2])), (h2, .inl (cI, 40, .inl f_2311))] := hD
              refine lv_goto (tgt := 114) hx hb dX1_value_93 (by decide) ?_
              obtain ⟨x_2312, ex_2312⟩ : ∃ y : Int32, y = x_2200 + Int32.ofInt (1) := ⟨_, rfl⟩
              have hx_2312 : rg (1) (360) x_2312 := by rw [ex_2312]; exact rg_mono (rg_add h_2273 (rg_k (x := Int32.ofInt (1)) (c := 1) (by decide)) (by decide) (by decide)) (by decide) (by decide)
              have qx_2312 : x_2312.toInt = x_2200.toInt + (1) := by rw [ex_2312]; exact rg_addE h_2273 (rg_k (x := Int32.ofInt (1)) (c := 1) (by decide)) (by decide) (by decide) (by decide)
              refine lv_iinc (v := x_2312) (lv' := [(1, .int x_2312), (2, .int x_2277), (0, .ref h0)]) hx hb dX1_value_114 hl (k := 1) rfl (ex_2312.symm) (by decide) rfl (fun ls hl => ?_)
              clear ex_2312
              refine lv_goto (tgt := 7) hx hb dX1_value_117 (by decide) ?_
              exact ih_2269 (f_2311, x_2312, x_2310) H locs ls ⟨hP.sub (ws' := [(h0, .inr (1, [.ref h1, .ref h2, .ref h3, .int a0, .int x_2310, .int a2])), (h1, .inl (cI, 360, .inl g0)), (h2, .inl (cI, 40, .inl f_2311)), (h3, .inl (cI, 16, .inl g2))]) [2, 0, 3, 1] rfl, hD.sub (ws' := [(h0, .inr (1, [.ref h1, .ref h2, .ref h3, .int a0, .int x_2310, .int a2])), (h1, .inl (cI, 360, .inl g0)), (h2, .inl (cI, 40, .inl f_2311)), (h3, .inl (cI, 16, .inl g2))]) [2, 0, 3, 1] (by decide) rfl, hS, lv_sub hl [0, 2] rfl, (rg_mono hx_2312 (by decide) (by decide)), (rg_mono hx_2310 (by decide) (by decide))⟩ (by show ((360) - x_2312.toInt).toNat < ((360) - x_2200.toInt).toNat; have ha := h_2273; simp only [rg] at ha; omega)
        · skip
          have h_2313 : rg (12) (2147483647) x_2277 := by have ha := h_2279; have hb_ := (rg_k (x := 12) (c := 12) (by decide)); simp only [rg, fa_lt, fa_le, fa_eq, (by decide : (12 : Int32).toInt = 12)] at ha hb_ c_2287; simp only [rg]; omega
          refine lv_iload_n hx hb dX1_value_52 rfl (lv_at hl 0 rfl) ?_
          refine lv_bipush (v := 15) hx hb dX1_value_53 (by decide) ?_
          refine lv_icmp_gt (tgt := 71) hx hb dX1_value_55 (by decide) (fun c_2314 => ?_) (fun c_2314 => ?_)
          · skip
            have h_2315 : rg (16) (2147483647) x_2277 := by have ha := h_2313; have hb_ := (rg_k (x := 15) (c := 15) (by decide)); simp only [rg, fa_lt, fa_le, fa_eq, (by decide : (15 : Int32).toInt = 15)] at ha hb_ c_2314; simp only [rg]; omega
            refine lv_iload_n hx hb dX1_value_71 rfl (lv_at hl 0 rfl) ?_
            refine lv_bipush (v := 11) hx hb dX1_value_72 (by decide) ?_
            refine lv_icmp_ne (tgt := 96) hx hb dX1_value_74 (by decide) (fun c_2316 => ?_) (fun c_2316 => ?_)
            · skip
              refine lv_aload_n hx hb dX1_value_96 rfl (lv_at hl 2 rfl) ?_
              have hPc := hP.sub (ws' := [(h0, .inr (1, [.ref h1, .ref h2, .ref h3, .int a0, .int x_2201, .int a2])), (h2, .inl (cI, 40, .inl f_2199))]) [0, 2] rfl
              have hDc := hD.sub (ws' := [(h0, .inr (1, [.ref h1, .ref h2, .ref h3, .int a0, .int x_2201, .int a2])), (h2, .inl (cI, 40, .inl f_2199))]) [0, 2] (by decide) rfl
              have hFc := va_free (wc := [(h0, .inr (1, [.ref h1, .ref h2, .ref h3, .int a0, .int x_2201, .int a2])), (h2, .inl (cI, 40, .inl f_2199))]) hD hS hA [0, 2] rfl
              refine va_calli (va_runV (As := []) (rest := []) ⟨hx, hb, hml, hown, hts⟩ (c_s_X1_pop l dC dI cB cI cJ cZ cP h0 h1 h2 f_2199 h3 a0 x_2201 (rg_mono hx_2201 (by decide) (by decide)) a2 H.size) (cwV 0 hts (gd_V (List.mem_of_getElem? (i := 3) rfl) (List.mem_of_getElem? (i := 4) rfl) (List.mem_of_getElem? (i := 5) rfl) (List.mem_of_getElem? (i := 6) rfl) (gd_mono k_s_X1_pop (fun _ h => List.mem_cons_of_mem _ (List.mem_append_right _ (List.mem_append_right _ (List.mem_append_left _ h)))))) rfl rfl rfl (by decide +kernel) ⟨Nat.le_of_ble_eq_true rfl, Nat.le_of_ble_eq_true rfl⟩) ⟨fun a U g mk q => by obtain ⟨q0, q1, qP, qK, qD⟩ := q; exact ⟨q0, q1, qP, va_K.moved (u := U) (U := U.calling g mk a) (Vm.Alike.refl U.vm) qK, qD⟩, va_recv hK hPc (ci := 1) (q0 := 0) rfl rfl, fun U hU hW => ⟨rfl, by rw [hU], by rw [hU]; exact hPc, va_K.moved hW.alike hK, hDc.weaken (fun _ _ _ _ => trivial)⟩⟩ rfl rfl hl.1 rfl (lv_room (Nat.le_of_ble_eq_true rfl)) dX1_value_97 ⟨Nat.le_of_ble_eq_true rfl, Nat.le_of_ble_eq_true rfl⟩) hS (fun q _ h => hFc q h) hFc (fun r_2317 u t H1 locs ht hvm hw hB hz1 hk1 hS => ?_)
              obtain ⟨x_2318, hx_2318, hP1, hD1⟩ := hB
              rw [ht] at hP1
              obtain ⟨hP, hD⟩ := va_join (wr := [(h1, .inl (cI, 360, .inl g0)), (h3, .inl (cI, 16, .inl g2))]) (w1 := [(h0, .inr (1, [.ref h1, .ref h2, .ref h3, .int a0, .int x_2318, .int a2])), (h2, .inl (cI, 40, .inl f_2199))]) hP hD [0, 2] [1, 3] rfl rfl (by decide) (by decide) hk1 hFc hP1 hD1
              generalize H1 = H at hP hS ⊢
              replace hP : va_P (dC, dI) vwCl [(h1, .inl (cI, 360, .inl g0)), (h3, .inl (cI, 16, .inl g2)), (h0, .inr (1, [.ref h1, .ref h2, .ref h3, .int a0, .int x_2318, .int a2])), (h2, .inl (cI, 40, .inl f_2199))] H := hP
              replace hD : va_D A [(h1, .inl (cI, 360, .inl g0)), (h3, .inl (cI, 16, .inl g2)), (h0, .inr (1, [.ref h1, .ref h2, .ref h3, .int a0, .int x_2318, .int a2])), (h2, .inl (cI, 40, .inl f_2199))] := hD
              refine lv_istore_n (lv' := [(3, .int r_2317), (2, .int x_2277), (1, .int x_2200), (0, .ref h0)]) hx hb dX1_value_100 rfl hl (by decide) rfl (fun ls hl => ?_)
              refine lv_aload_n hx hb dX1_value_101 rfl (lv_at hl 3 rfl) ?_
              refine lv_iload_n hx hb dX1_value_102 rfl (lv_at hl 1 rfl) ?_
              refine lv_aload_n hx hb dX1_value_103 rfl (lv_at hl 3 rfl) ?_
              have hPc := hP.sub (ws' := [(h0, .inr (1, [.ref h1, .ref h2, .ref h3, .int a0, .int x_2318, .int a2])), (h2, .inl (cI, 40, .inl f_2199))]) [2, 3] rfl
              have hDc := hD.sub (ws' := [(h0, .inr (1, [.ref h1, .ref h2, .ref h3, .int a0, .int x_2318, .int a2])), (h2, .inl (cI, 40, .inl f_2199))]) [2, 3] (by decide) rfl
              have hFc := va_free (wc := [(h0, .inr (1, [.ref h1, .ref h2, .ref h3, .int a0, .int x_2318, .int a2])), (h2, .inl (cI, 40, .inl f_2199))]) hD hS hA [2, 3] rfl
              refine va_calli (va_runV (As := []) (rest := [.int x_2277, .ref h0]) ⟨hx, hb, hml, hown, hts⟩ (c_s_X1_pop l dC dI cB cI cJ cZ cP h0 h1 h2 f_2199 h3 a0 x_2318 (rg_mono hx_2318 (by decide) (by decide)) a2 H.size) (cwV 0 hts (gd_V (List.mem_of_getElem? (i := 3) rfl) (List.mem_of_getElem? (i := 4) rfl) (List.mem_of_getElem? (i := 5) rfl) (List.mem_of_getElem? (i := 6) rfl) (gd_mono k_s_X1_pop (fun _ h => List.mem_cons_of_mem _ (List.mem_append_right _ (List.mem_append_right _ (List.mem_append_left _ h)))))) rfl rfl rfl (by decide +kernel) ⟨Nat.le_of_ble_eq_true rfl, Nat.le_of_ble_eq_true rfl⟩) ⟨fun a U g mk q => by obtain ⟨q0, q1, qP, qK, qD⟩ := q; exact ⟨q0, q1, qP, va_K.moved (u := U) (U := U.calling g mk a) (Vm.Alike.refl U.vm) qK, qD⟩, va_recv hK hPc (ci := 1) (q0 := 0) rfl rfl, fun U hU hW => ⟨rfl, by rw [hU], by rw [hU]; exact hPc, va_K.moved hW.alike hK, hDc.weaken (fun _ _ _ _ => trivial)⟩⟩ rfl rfl hl.1 rfl (lv_room (Nat.le_of_ble_eq_true rfl)) dX1_value_104 ⟨Nat.le_of_ble_eq_true rfl, Nat.le_of_ble_eq_true rfl⟩) hS (fun q _ h => hFc q h) hFc (fun r_2319 u t H1 locs ht hvm hw hB hz1 hk1 hS => ?_)
              obtain ⟨x_2320, hx_2320, hP1, hD1⟩ := hB
              rw [ht] at hP1
              obtain ⟨hP, hD⟩ := va_join (wr := [(h1, .inl (cI, 360, .inl g0)), (h3, .inl (cI, 16, .inl g2))]) (w1 := [(h0, .inr (1, [.ref h1, .ref h2, .ref h3, .int a0, .int x_2320, .int a2])), (h2, .inl (cI, 40, .inl f_2199))]) hP hD [2, 3] [0, 1] rfl rfl (by decide) (by decide) hk1 hFc hP1 hD1
              generalize H1 = H at hP hS ⊢
              replace hP : va_P (dC, dI) vwCl [(h1, .inl (cI, 360, .inl g0)), (h3, .inl (cI, 16, .inl g2)), (h0, .inr (1, [.ref h1, .ref h2, .ref h3, .int a0, .int x_2320, .int a2])), (h2, .inl (cI, 40, .inl f_2199))] H := hP
              replace hD : va_D A [(h1, .inl (cI, 360, .inl g0)), (h3, .inl (cI, 16, .inl g2)), (h0, .inr (1, [.ref h1, .ref h2, .ref h3, .int a0, .int x_2320, .int a2])), (h2, .inl (cI, 40, .inl f_2199))] := hD
              refine lv_iload_n hx hb dX1_value_107 rfl (lv_at hl 0 rfl) ?_
              have hPc := hP.sub (ws' := []) [] rfl
              have hDc := hD.sub (ws' := []) [] (by decide) rfl
              have hFc := va_free (wc := []) hD hS hA [] rfl
              refine va_calli (va_runS (As := [.int x_2277, .int r_2319, .int r_2317]) (rest := [.ref h0]) ⟨hx, hb, hml, hown, hts⟩ (c_s_X1_joined l dC dI cB cI cJ cZ cP x_2277 r_2319 r_2317 H.size) (va_cwS 3 hts (gd_S (List.mem_of_getElem? (i := 12) rfl) (List.mem_of_getElem? (i := 13) rfl) (List.mem_of_getElem? (i := 6) rfl) (gd_mono k_s_X1_joined (fun _ h => List.mem_cons_of_mem _ (List.mem_append_right _ (List.mem_append_right _ (List.mem_append_right _ (List.mem_append_right _ (List.mem_append_left _ h)))))))) rfl rfl rfl (by decide +kernel) ⟨Nat.le_of_ble_eq_true rfl, Nat.le_of_ble_eq_true rfl⟩) ⟨fun a U g mk q => by obtain ⟨q0, q1, qP, qK, qD⟩ := q; exact ⟨q0, q1, qP, va_K.moved (u := U) (U := U.calling g mk a) (Vm.Alike.refl U.vm) qK, qD⟩, fun U hU hW => ⟨rfl, by rw [hU], by rw [hU]; exact hPc, va_K.moved hW.alike hK, hDc.weaken (fun _ _ _ _ => trivial)⟩⟩ rfl rfl hl.1 rfl (lv_room (Nat.le_of_ble_eq_true rfl)) dX1_value_108 ⟨Nat.le_of_ble_eq_true rfl, Nat.le_of_ble_eq_true rfl⟩) hS (fun q _ h => hFc q h) hFc (fun r_2321 u t H1 locs ht hvm hw hB hz1 hk1 hS => ?_)
              obtain ⟨hP1, hD1⟩ := hB
              rw [ht] at hP1
              obtain ⟨hP, hD⟩ := va_join (wr := [(h1, .inl (cI, 360, .inl g0)), (h3, .inl (cI, 16, .inl g2)), (h0, .inr (1, [.ref h1, .ref h2, .ref h3, .int a0, .int x_2320, .int a2])), (h2, .inl (cI, 40, .inl f_2199))]) (w1 := []) hP hD [] [0, 1, 2, 3] rfl rfl (by decide) (by decide) hk1 hFc hP1 hD1
              generalize H1 = H at hP hS ⊢
              replace hP : va_P (dC, dI) vwCl [(h1, .inl (cI, 360, .inl g0)), (h3, .inl (cI, 16, .inl g2)), (h0, .inr (1, [.ref h1, .ref h2, .ref h3, .int a0, .int x_2320, .int a2])), (h2, .inl (cI, 40, .inl f_2199))] H := hP
              replace hD : va_D A [(h1, .inl (cI, 360, .inl g0)), (h3, .inl (cI, 16, .inl g2)), (h0, .inr (1, [.ref h1, .ref h2, .ref h3, .int a0, .int x_2320, .int a2])), (h2, .inl (cI, 40, .inl f_2199))] := hD
              have hPc := hP.sub (ws' := [(h0, .inr (1, [.ref h1, .ref h2, .ref h3, .int a0, .int x_2320, .int a2])), (h2, .inl (cI, 40, .inl f_2199))]) [2, 3] rfl
              have hDc := hD.sub (ws' := [(h0, .inr (1, [.ref h1, .ref h2, .ref h3, .int a0, .int x_2320, .int a2])), (h2, .inl (cI, 40, .inl f_2199))]) [2, 3] (by decide) rfl
              have hFc := va_free (wc := [(h0, .inr (1, [.ref h1, .ref h2, .ref h3, .int a0, .int x_2320, .int a2])), (h2, .inl (cI, 40, .inl f_2199))]) hD hS hA [2, 3] rfl
              refine va_callv (va_runV (As := [.int r_2321]) (rest := []) ⟨hx, hb, hml, hown, hts⟩ (c_s_X1_push l dC dI cB cI cJ cZ cP h0 h1 h2 f_2199 h3 a0 x_2320 (rg_mono hx_2320 (by decide) (by decide)) a2 r_2321 H.size) (cwV 1 hts (gd_V (List.mem_of_getElem? (i := 9) rfl) (List.mem_of_getElem? (i := 10) rfl) (List.mem_of_getElem? (i := 11) rfl) (List.mem_of_getElem? (i := 6) rfl) (gd_mono k_s_X1_push (fun _ h => List.mem_cons_of_mem _ (List.mem_append_right _ (List.mem_append_right _ (List.mem_append_right _ (List.mem_append_left _ h))))))) rfl rfl rfl (by decide +kernel) ⟨Nat.le_of_ble_eq_true rfl, Nat.le_of_ble_eq_true rfl⟩) ⟨fun a U g mk q => by obtain ⟨q0, q1, qP, qK, qD⟩ := q; exact ⟨q0, q1, qP, va_K.moved (u := U) (U := U.calling g mk a) (Vm.Alike.refl U.vm) qK, qD⟩, va_recv hK hPc (ci := 1) (q0 := 0) rfl rfl, fun U hU hW => ⟨rfl, by rw [hU], by rw [hU]; exact hPc, va_K.moved hW.alike hK, hDc.weaken (fun _ _ _ _ => trivial)⟩⟩ rfl rfl hl.1 rfl (lv_room (Nat.le_of_ble_eq_true rfl)) dX1_value_111 ⟨Nat.le_of_ble_eq_true rfl, Nat.le_of_ble_eq_true rfl⟩) hS (fun q _ h => hFc q h) hFc (fun u t H1 locs ht hvm hw hB hz1 hk1 hS => ?_)
              obtain ⟨x_2323, f_2324, hx_2323, hP1, hD1⟩ := hB
              rw [ht] at hP1
              obtain ⟨hP, hD⟩ := va_join (wr := [(h1, .inl (cI, 360, .inl g0)), (h3, .inl (cI, 16, .inl g2))]) (w1 := [(h0, .inr (1, [.ref h1, .ref h2, .ref h3, .int a0, .int x_2323, .int a2])), (h2, .inl (cI, 40, .inl f_2324))]) hP hD [2, 3] [0, 1] rfl rfl (by decide) (by decide) hk1 hFc hP1 hD1
              generalize H1 = H at hP hS ⊢
              replace hP : va_P (dC, dI) vwCl [(h1, .inl (cI, 360, .inl g0)), (h3, .inl (cI, 16, .inl g2)), (h0, .inr (1, [.ref h1, .ref h2, .ref h3, .int a0, .int x_2323, .int a2])), (h2, .inl (cI, 40, .inl f_2324))] H := hP
              replace hD : va_D A [(h1, .inl (cI, 360, .inl g0)), (h3, .inl (cI, 16, .inl g2)), (h0, .inr (1, [.ref h1, .ref h2, .ref h3, .int a0, .int x_2323, .int a2])), (h2, .inl (cI, 40, .inl f_2324))] := hD
              obtain ⟨x_2325, ex_2325⟩ : ∃ y : Int32, y = x_2200 + Int32.ofInt (1) := ⟨_, rfl⟩
              have hx_2325 : rg (1) (360) x_2325 := by rw [ex_2325]; exact rg_mono (rg_add h_2273 (rg_k (x := Int32.ofInt (1)) (c := 1) (by decide)) (by decide) (by decide)) (by decide) (by decide)
              have qx_2325 : x_2325.toInt = x_2200.toInt + (1) := by rw [ex_2325]; exact rg_addE h_2273 (rg_k (x := Int32.ofInt (1)) (c := 1) (by decide)) (by decide) (by decide) (by decide)
              refine lv_iinc (v := x_2325) (lv' := [(1, .int x_2325), (3, .int r_2317), (2, .int x_2277), (0, .ref h0)]) hx hb dX1_value_114 hl (k := 2) rfl (ex_2325.symm) (by decide) rfl (fun ls hl => ?_)
              clear ex_2325
              refine lv_goto (tgt := 7) hx hb dX1_value_117 (by decide) ?_
              exact ih_2269 (f_2324, x_2325, x_2323) H locs ls ⟨hP.sub (ws' := [(h0, .inr (1, [.ref h1, .ref h2, .ref h3, .int a0, .int x_2323, .int a2])), (h1, .inl (cI, 360, .inl g0)), (h2, .inl (cI, 40, .inl f_2324)), (h3, .inl (cI, 16, .inl g2))]) [2, 0, 3, 1] rfl, hD.sub (ws' := [(h0, .inr (1, [.ref h1, .ref h2, .ref h3, .int a0, .int x_2323, .int a2])), (h1, .inl (cI, 360, .inl g0)), (h2, .inl (cI, 40, .inl f_2324)), (h3, .inl (cI, 16, .inl g2))]) [2, 0, 3, 1] (by decide) rfl, hS, lv_sub hl [0, 3] rfl, (rg_mono hx_2325 (by decide) (by decide)), (rg_mono hx_2323 (by decide) (by decide))⟩ (by show ((360) - x_2325.toInt).toNat < ((360) - x_2200.toInt).toNat; have ha := h_2273; simp only [rg] at ha; omega)
            · skip
              exfalso; have ha := h_2315; have hb_ := (rg_k (x := 11) (c := 11) (by decide)); simp only [rg, fa_lt, fa_le, fa_eq, (by decide : (11 : Int32).toInt = 11)] at ha hb_ c_2316; omega
          · skip
            have h_2326 : rg (12) (15) x_2277 := by have ha := h_2313; have hb_ := (rg_k (x := 15) (c := 15) (by decide)); simp only [rg, fa_lt, fa_le, fa_eq, (by decide : (15 : Int32).toInt = 15)] at ha hb_ c_2314; simp only [rg]; omega
            refine lv_aload_n hx hb dX1_value_58 rfl (lv_at hl 2 rfl) ?_
            refine lv_aload_n hx hb dX1_value_59 rfl (lv_at hl 2 rfl) ?_
            refine va_get (D := (dC, dI)) (ci := 1) (v := .ref h3) (C := RX1) (T := TX1) (N := 6) hx hb hts hinX1 hown hK hP 0 rfl rfl 2 (by decide) (hts (.fieldLink RX1 18 "MayRings$Law" "facts" "[I") (List.mem_of_getElem? (i := 8) rfl)) (fun _ h9 => h9) rfl dX1_value_60 ?_
            refine lv_iload_n hx hb dX1_value_63 rfl (lv_at hl 0 rfl) ?_
            refine va_iald hx hb hK hP 3 1 rfl rfl (rg_in (n := 16) (rg_mono h_2326 (by decide) (by decide))) dX1_value_64 ?_
            refine lv_topi (fun x_2327 ex_2327 => ?_)
            have hPc := hP.sub (ws' := [(h0, .inr (1, [.ref h1, .ref h2, .ref h3, .int a0, .int x_2201, .int a2])), (h2, .inl (cI, 40, .inl f_2199))]) [0, 2] rfl
            have hDc := hD.sub (ws' := [(h0, .inr (1, [.ref h1, .ref h2, .ref h3, .int a0, .int x_2201, .int a2])), (h2, .inl (cI, 40, .inl f_2199))]) [0, 2] (by decide) rfl
            have hFc := va_free (wc := [(h0, .inr (1, [.ref h1, .ref h2, .ref h3, .int a0, .int x_2201, .int a2])), (h2, .inl (cI, 40, .inl f_2199))]) hD hS hA [0, 2] rfl
            refine va_callv (va_runV (As := [.int x_2327]) (rest := []) ⟨hx, hb, hml, hown, hts⟩ (c_s_X1_push l dC dI cB cI cJ cZ cP h0 h1 h2 f_2199 h3 a0 x_2201 (rg_mono hx_2201 (by decide) (by decide)) a2 x_2327 H.size) (cwV 1 hts (gd_V (List.mem_of_getElem? (i := 9) rfl) (List.mem_of_getElem? (i := 10) rfl) (List.mem_of_getElem? (i := 11) rfl) (List.mem_of_getElem? (i := 6) rfl) (gd_mono k_s_X1_push (fun _ h => List.mem_cons_of_mem _ (List.mem_append_right _ (List.mem_append_right _ (List.mem_append_right _ (List.mem_append_left _ h))))))) rfl rfl rfl (by decide +kernel) ⟨Nat.le_of_ble_eq_true rfl, Nat.le_of_ble_eq_true rfl⟩) ⟨fun a U g mk q => by obtain ⟨q0, q1, qP, qK, qD⟩ := q; exact ⟨q0, q1, qP, va_K.moved (u := U) (U := U.calling g mk a) (Vm.Alike.refl U.vm) qK, qD⟩, va_recv hK hPc (ci := 1) (q0 := 0) rfl rfl, fun U hU hW => ⟨rfl, by rw [hU], by rw [hU]; exact hPc, va_K.moved hW.alike hK, hDc.weaken (fun _ _ _ _ => trivial)⟩⟩ rfl rfl hl.1 rfl (lv_room (Nat.le_of_ble_eq_true rfl)) dX1_value_65 ⟨Nat.le_of_ble_eq_true rfl, Nat.le_of_ble_eq_true rfl⟩) hS (fun q _ h => hFc q h) hFc (fun u t H1 locs ht hvm hw hB hz1 hk1 hS => ?_)
            obtain ⟨x_2329, f_2330, hx_2329, hP1, hD1⟩ := hB
            rw [ht] at hP1
            obtain ⟨hP, hD⟩ := va_join (wr := [(h1, .inl (cI, 360, .inl g0)), (h3, .inl (cI, 16, .inl g2))]) (w1 := [(h0, .inr (1, [.ref h1, .ref h2, .ref h3, .int a0, .int x_2329, .int a2])), (h2, .inl (cI, 40, .inl f_2330))]) hP hD [0, 2] [1, 3] rfl rfl (by decide) (by decide) hk1 hFc hP1 hD1
            generalize H1 = H at hP hS ⊢
            replace hP : va_P (dC, dI) vwCl [(h1, .inl (cI, 360, .inl g0)), (h3, .inl (cI, 16, .inl g2)), (h0, .inr (1, [.ref h1, .ref h2, .ref h3, .int a0, .int x_2329, .int a2])), (h2, .inl (cI, 40, .inl f_2330))] H := hP
            replace hD : va_D A [(h1, .inl (cI, 360, .inl g0)), (h3, .inl (cI, 16, .inl g2)), (h0, .inr (1, [.ref h1, .ref h2, .ref h3, .int a0, .int x_2329, .int a2])), (h2, .inl (cI, 40, .inl f_2330))] := hD
            refine lv_goto (tgt := 114) hx hb dX1_value_68 (by decide) ?_
            obtain ⟨x_2331, ex_2331⟩ : ∃ y : Int32, y = x_2200 + Int32.ofInt (1) := ⟨_, rfl⟩
            have hx_2331 : rg (1) (360) x_2331 := by rw [ex_2331]; exact rg_mono (rg_add h_2273 (rg_k (x := Int32.ofInt (1)) (c := 1) (by decide)) (by decide) (by decide)) (by decide) (by decide)
            have qx_2331 : x_2331.toInt = x_2200.toInt + (1) := by rw [ex_2331]; exact rg_addE h_2273 (rg_k (x := Int32.ofInt (1)) (c := 1) (by decide)) (by decide) (by decide) (by decide)
            refine lv_iinc (v := x_2331) (lv' := [(1, .int x_2331), (2, .int x_2277), (0, .ref h0)]) hx hb dX1_value_114 hl (k := 1) rfl (ex_2331.symm) (by decide) rfl (fun ls hl => ?_)
            clear ex_2331
            refine lv_goto (tgt := 7) hx hb dX1_value_117 (by decide) ?_
            exact ih_2269 (f_2330, x_2331, x_2329) H locs ls ⟨hP.sub (ws' := [(h0, .inr (1, [.ref h1, .ref h2, .ref h3, .int a0, .int x_2329, .int a2])), (h1, .inl (cI, 360, .inl g0)), (h2, .inl (cI, 40, .inl f_2330)), (h3, .inl (cI, 16, .inl g2))]) [2, 0, 3, 1] rfl, hD.sub (ws' := [(h0, .inr (1, [.ref h1, .ref h2, .ref h3, .int a0, .int x_2329, .int a2])), (h1, .inl (cI, 360, .inl g0)), (h2, .inl (cI, 40, .inl f_2330)), (h3, .inl (cI, 16, .inl g2))]) [2, 0, 3, 1] (by decide) rfl, hS, lv_sub hl [0, 2] rfl, (rg_mono hx_2331 (by decide) (by decide)), (rg_mono hx_2329 (by decide) (by decide))⟩ (by show ((360) - x_2331.toInt).toNat < ((360) - x_2200.toInt).toNat; have ha := h_2273; simp only [rg] at ha; omega)
    · skip
      have h_2332 : rg (-2147483648) (0) x_2277 := by have ha := (rg_any x_2277); have hb_ := (rg_k (x := 0) (c := 0) (by decide)); simp only [rg, fa_lt, fa_le, fa_eq, (by decide : (0 : Int32).toInt = 0)] at ha hb_ c_2278; simp only [rg]; omega
      refine lv_aload_n hx hb dX1_value_27 rfl (lv_at hl 2 rfl) ?_
      refine lv_aload_n hx hb dX1_value_28 rfl (lv_at hl 2 rfl) ?_
      refine va_get (D := (dC, dI)) (ci := 1) (v := .ref h1) (C := RX1) (T := TX1) (N := 6) hx hb hts hinX1 hown hK hP 0 rfl rfl 0 (by decide) (hts (.fieldLink RX1 11 "MayRings$Law" "codes" "[I") (List.mem_of_getElem? (i := 7) rfl)) (fun _ h9 => h9) rfl dX1_value_29 ?_
      refine lv_iload_n hx hb dX1_value_32 rfl (lv_at hl 1 rfl) ?_
      refine va_iald hx hb hK hP 1 1 rfl rfl (rg_in (n := 360) (rg_mono h_2273 (by decide) (by decide))) dX1_value_33 ?_
      refine tp_v (.int x_2276) (congrArg Value.int (ex_2276.symm)) ?_
      have hPc := hP.sub (ws' := [(h0, .inr (1, [.ref h1, .ref h2, .ref h3, .int a0, .int x_2201, .int a2])), (h2, .inl (cI, 40, .inl f_2199))]) [0, 2] rfl
      have hDc := hD.sub (ws' := [(h0, .inr (1, [.ref h1, .ref h2, .ref h3, .int a0, .int x_2201, .int a2])), (h2, .inl (cI, 40, .inl f_2199))]) [0, 2] (by decide) rfl
      have hFc := va_free (wc := [(h0, .inr (1, [.ref h1, .ref h2, .ref h3, .int a0, .int x_2201, .int a2])), (h2, .inl (cI, 40, .inl f_2199))]) hD hS hA [0, 2] rfl
      refine va_callv (va_runV (As := [.int x_2276]) (rest := []) ⟨hx, hb, hml, hown, hts⟩ (c_s_X1_push l dC dI cB cI cJ cZ cP h0 h1 h2 f_2199 h3 a0 x_2201 (rg_mono hx_2201 (by decide) (by decide)) a2 x_2276 H.size) (cwV 1 hts (gd_V (List.mem_of_getElem? (i := 9) rfl) (List.mem_of_getElem? (i := 10) rfl) (List.mem_of_getElem? (i := 11) rfl) (List.mem_of_getElem? (i := 6) rfl) (gd_mono k_s_X1_push (fun _ h => List.mem_cons_of_mem _ (List.mem_append_right _ (List.mem_append_right _ (List.mem_append_right _ (List.mem_append_left _ h))))))) rfl rfl rfl (by decide +kernel) ⟨Nat.le_of_ble_eq_true rfl, Nat.le_of_ble_eq_true rfl⟩) ⟨fun a U g mk q => by obtain ⟨q0, q1, qP, qK, qD⟩ := q; exact ⟨q0, q1, qP, va_K.moved (u := U) (U := U.calling g mk a) (Vm.Alike.refl U.vm) qK, qD⟩, va_recv hK hPc (ci := 1) (q0 := 0) rfl rfl, fun U hU hW => ⟨rfl, by rw [hU], by rw [hU]; exact hPc, va_K.moved hW.alike hK, hDc.weaken (fun _ _ _ _ => trivial)⟩⟩ rfl rfl hl.1 rfl (lv_room (Nat.le_of_ble_eq_true rfl)) dX1_value_34 ⟨Nat.le_of_ble_eq_true rfl, Nat.le_of_ble_eq_true rfl⟩) hS (fun q _ h => hFc q h) hFc (fun u t H1 locs ht hvm hw hB hz1 hk1 hS => ?_)
      obtain ⟨x_2334, f_2335, hx_2334, hP1, hD1⟩ := hB
      rw [ht] at hP1
      obtain ⟨hP, hD⟩ := va_join (wr := [(h1, .inl (cI, 360, .inl g0)), (h3, .inl (cI, 16, .inl g2))]) (w1 := [(h0, .inr (1, [.ref h1, .ref h2, .ref h3, .int a0, .int x_2334, .int a2])), (h2, .inl (cI, 40, .inl f_2335))]) hP hD [0, 2] [1, 3] rfl rfl (by decide) (by decide) hk1 hFc hP1 hD1
      generalize H1 = H at hP hS ⊢
      replace hP : va_P (dC, dI) vwCl [(h1, .inl (cI, 360, .inl g0)), (h3, .inl (cI, 16, .inl g2)), (h0, .inr (1, [.ref h1, .ref h2, .ref h3, .int a0, .int x_2334, .int a2])), (h2, .inl (cI, 40, .inl f_2335))] H := hP
      replace hD : va_D A [(h1, .inl (cI, 360, .inl g0)), (h3, .inl (cI, 16, .inl g2)), (h0, .inr (1, [.ref h1, .ref h2, .ref h3, .int a0, .int x_2334, .int a2])), (h2, .inl (cI, 40, .inl f_2335))] := hD
      refine lv_goto (tgt := 114) hx hb dX1_value_37 (by decide) ?_
      obtain ⟨x_2336, ex_2336⟩ : ∃ y : Int32, y = x_2200 + Int32.ofInt (1) := ⟨_, rfl⟩
      have hx_2336 : rg (1) (360) x_2336 := by rw [ex_2336]; exact rg_mono (rg_add h_2273 (rg_k (x := Int32.ofInt (1)) (c := 1) (by decide)) (by decide) (by decide)) (by decide) (by decide)
      have qx_2336 : x_2336.toInt = x_2200.toInt + (1) := by rw [ex_2336]; exact rg_addE h_2273 (rg_k (x := Int32.ofInt (1)) (c := 1) (by decide)) (by decide) (by decide) (by decide)
      refine lv_iinc (v := x_2336) (lv' := [(1, .int x_2336), (2, .int x_2277), (0, .ref h0)]) hx hb dX1_value_114 hl (k := 1) rfl (ex_2336.symm) (by decide) rfl (fun ls hl => ?_)
      clear ex_2336
      refine lv_goto (tgt := 7) hx hb dX1_value_117 (by decide) ?_
      exact ih_2269 (f_2335, x_2336, x_2334) H locs ls ⟨hP.sub (ws' := [(h0, .inr (1, [.ref h1, .ref h2, .ref h3, .int a0, .int x_2334, .int a2])), (h1, .inl (cI, 360, .inl g0)), (h2, .inl (cI, 40, .inl f_2335)), (h3, .inl (cI, 16, .inl g2))]) [2, 0, 3, 1] rfl, hD.sub (ws' := [(h0, .inr (1, [.ref h1, .ref h2, .ref h3, .int a0, .int x_2334, .int a2])), (h1, .inl (cI, 360, .inl g0)), (h2, .inl (cI, 40, .inl f_2335)), (h3, .inl (cI, 16, .inl g2))]) [2, 0, 3, 1] (by decide) rfl, hS, lv_sub hl [0, 2] rfl, (rg_mono hx_2336 (by decide) (by decide)), (rg_mono hx_2334 (by decide) (by decide))⟩ (by show ((360) - x_2336.toInt).toNat < ((360) - x_2200.toInt).toNat; have ha := h_2273; simp only [rg] at ha; omega)
def v_s_X2_add : List Cond := Cond.code yX2_add cX2_add 5 (some .int) :: ([Cond.fieldLink RX2 31 "MayRings$Letters" "count" "I", Cond.fieldLink RX2 11 "MayRings$Letters" "house" "[I", Cond.fieldLink RX2 15 "MayRings$Letters" "where" "[I", Cond.fieldLink RX2 18 "MayRings$Letters" "ofPlace" "[Z", Cond.fieldLink RX2 22 "MayRings$Letters" "isSo" "[Z", Cond.fieldLink RX2 25 "MayRings$Letters" "toldAt" "[I", Cond.fieldLink RX2 35 "MayRings$Letters" "time" "I", Cond.fieldLink RX2 28 "MayRings$Letters" "untoldAt" "[I"] ++ (wsX20 ++ ([])))
theorem k_s_X2_add : GoodIn lw_tbl v_s_X2_add := gd_c (List.mem_of_getElem? (i := 1153) (by decide +kernel)) rfl (goodIn_app (gd_c (List.mem_of_getElem? (i := 410) (by decide +kernel)) rfl (gd_c (List.mem_of_getElem? (i := 404) (by decide +kernel)) rfl (gd_c (List.mem_of_getElem? (i := 405) (by decide +kernel)) rfl (gd_c (List.mem_of_getElem? (i := 406) (by decide +kernel)) rfl (gd_c (List.mem_of_getElem? (i := 407) (by decide +kernel)) rfl (gd_c (List.mem_of_getElem? (i := 408) (by decide +kernel)) rfl (gd_c (List.mem_of_getElem? (i := 412) (by decide +kernel)) rfl (gd_c (List.mem_of_getElem? (i := 409) (by decide +kernel)) rfl (gd_nil))))))))) (goodIn_app kfX2 (gd_nil)))
set_option maxHeartbeats 2000000 in
set_option maxRecDepth 100000 in
theorem c_s_X2_add (l : Launch) (dC : Nat → ClassId) (dI : Nat → Nat → Nat) (cB cI cJ cZ cP : ClassId) (h0 : Nat) (h1 : Nat) (g0 : Nat → Int32) (hg0 : rgA (0) (8) g0) (h2 : Nat) (g1 : Nat → Int32) (hg1 : rgA (0) (8) g1) (h3 : Nat) (g2 : Nat → Int32) (hg2 : rgA (0) (1) g2) (h4 : Nat) (g3 : Nat → Int32) (hg3 : rgA (0) (1) g3) (h5 : Nat) (g4 : Nat → Int32) (h6 : Nat) (g5 : Nat → Int32) (a0 : Int32) (ha0 : rg (0) (20) a0) (a1 : Int32) (p0 : Int32) (hp0 : rg (0) (8) p0) (p1 : Int32) (hp1 : rg (0) (8) p1) (p2 : Int32) (hp2 : rg (0) (1) p2) (p3 : Int32) (hp3 : rg (0) (1) p3) (sz : Nat) : Met l yX2_add v_s_X2_add ({ frames := 0, cells := 0, slots := 0, locals := 0 }) (va_Pc [.ref h0, .int p0, .int p1, .int p2, .int p3] (fun U => U.heap.size = sz ∧ va_P (dC, dI) vwCl [(h0, .inr (2, [.ref h1, .ref h2, .ref h3, .ref h4, .ref h5, .ref h6, .int a0, .int a1])), (h1, .inl (cI, 20, .inl g0)), (h2, .inl (cI, 20, .inl g1)), (h3, .inl (cZ, 20, .inl g2)), (h4, .inl (cZ, 20, .inl g3)), (h5, .inl (cI, 20, .inl g4)), (h6, .inl (cI, 20, .inl g5))] U.heap ∧ va_K (dC, dI) vwCl (ty5 cB cI cJ cZ cP) U ∧ va_D (fun _ => True) [(h0, .inr (2, [.ref h1, .ref h2, .ref h3, .ref h4, .ref h5, .ref h6, .int a0, .int a1])), (h1, .inl (cI, 20, .inl g0)), (h2, .inl (cI, 20, .inl g1)), (h3, .inl (cZ, 20, .inl g2)), (h4, .inl (cZ, 20, .inl g3)), (h5, .inl (cI, 20, .inl g4)), (h6, .inl (cI, 20, .inl g5))])) (va_Qi (fun (r : Int32) (u9 : Unit) => rg (-1) (19) r) (fun u9 t => ∃ (z0 : Int32) (z1 : Nat → Int32) (z2 : Nat → Int32) (z3 : Nat → Int32) (z4 : Nat → Int32) (z5 : Nat → Int32) (z6 : Nat → Int32), rg (0) (20) z0 ∧ rgA (0) (8) z1 ∧ rgA (0) (8) z2 ∧ rgA (0) (1) z3 ∧ rgA (0) (1) z4 ∧ va_P (dC, dI) vwCl [(h0, .inr (2, [.ref h1, .ref h2, .ref h3, .ref h4, .ref h5, .ref h6, .int z0, .int a1])), (h1, .inl (cI, 20, .inl z1)), (h2, .inl (cI, 20, .inl z2)), (h3, .inl (cZ, 20, .inl z3)), (h4, .inl (cZ, 20, .inl z4)), (h5, .inl (cI, 20, .inl z5)), (h6, .inl (cI, 20, .inl z6))] t.heap ∧ va_D (va_A [(h0, .inr (2, [.ref h1, .ref h2, .ref h3, .ref h4, .ref h5, .ref h6, .int a0, .int a1])), (h1, .inl (cI, 20, .inl g0)), (h2, .inl (cI, 20, .inl g1)), (h3, .inl (cZ, 20, .inl g2)), (h4, .inl (cZ, 20, .inl g3)), (h5, .inl (cI, 20, .inl g4)), (h6, .inl (cI, 20, .inl g5))] sz) [(h0, .inr (2, [.ref h1, .ref h2, .ref h3, .ref h4, .ref h5, .ref h6, .int z0, .int a1])), (h1, .inl (cI, 20, .inl z1)), (h2, .inl (cI, 20, .inl z2)), (h3, .inl (cZ, 20, .inl z3)), (h4, .inl (cZ, 20, .inl z4)), (h5, .inl (cI, 20, .inl z5)), (h6, .inl (cI, 20, .inl z6))]) (va_A [(h0, .inr (2, [.ref h1, .ref h2, .ref h3, .ref h4, .ref h5, .ref h6, .int a0, .int a1])), (h1, .inl (cI, 20, .inl g0)), (h2, .inl (cI, 20, .inl g1)), (h3, .inl (cZ, 20, .inl g2)), (h4, .inl (cZ, 20, .inl g3)), (h5, .inl (cI, 20, .inl g4)), (h6, .inl (cI, 20, .inl g5))] sz)) 0 0 (va_A [(h0, .inr (2, [.ref h1, .ref h2, .ref h3, .ref h4, .ref h5, .ref h6, .int a0, .int a1])), (h1, .inl (cI, 20, .inl g0)), (h2, .inl (cI, 20, .inl g1)), (h3, .inl (cZ, 20, .inl g2)), (h4, .inl (cZ, 20, .inl g3)), (h5, .inl (cI, 20, .inl g4)), (h6, .inl (cI, 20, .inl g5))] sz) := by
  refine Met.ofW (cc := cX2_add) (maxL := 5) (ret := (some .int)) (by decide) rfl ?_
  intro p e s m args below meth c s₁ B hml hv
  obtain ⟨rfl, hsz, hP, hK, hD0⟩ := hv
  have hx := B.exec
  have hb := B.bytes
  have hr := B.returns
  have hts := atoms_spec (ws := v_s_X2_add) B.pre
  have hown : s.vm.findClass RX2 = some m.cls := findClass_of_methodNamed B.named
  have hlocks := B.notSynchronized
  have hinX2 : ∀ w ∈ wsX20, w ∈ v_s_X2_add := fun _ h => List.mem_cons_of_mem _ (List.mem_append_right _ (List.mem_append_left _ h))
  subst hsz
  have hD := hD0.self (sz := s.heap.size)
  generalize hAe : va_A [(h0, .inr (2, [.ref h1, .ref h2, .ref h3, .ref h4, .ref h5, .ref h6, .int a0, .int a1])), (h1, .inl (cI, 20, .inl g0)), (h2, .inl (cI, 20, .inl g1)), (h3, .inl (cZ, 20, .inl g2)), (h4, .inl (cZ, 20, .inl g3)), (h5, .inl (cI, 20, .inl g4)), (h6, .inl (cI, 20, .inl g5))] s.heap.size = A at hD ⊢
  have hA : ∀ q : Nat, s.heap.size ≤ q → A q := fun q h => by rw [← hAe]; exact Or.inr h
  have hP : va_P (dC, dI) vwCl [(h0, .inr (2, [.ref h1, .ref h2, .ref h3, .ref h4, .ref h5, .ref h6, .int a0, .int a1])), (h1, .inl (cI, 20, .inl g0)), (h2, .inl (cI, 20, .inl g1)), (h3, .inl (cZ, 20, .inl g2)), (h4, .inl (cZ, 20, .inl g3)), (h5, .inl (cI, 20, .inl g4)), (h6, .inl (cI, 20, .inl g5))] s.heap := hP
  have hl := lv_entry ([.ref h0, .int p0, .int p1, .int p2, .int p3]) (n := 5) (Nat.le_of_ble_eq_true rfl)
  rw [lg_entry_eq]
  generalize (lg_sl ([.ref h0, .int p0, .int p1, .int p2, .int p3]) ++ List.replicate (5 - (lg_sl ([.ref h0, .int p0, .int p1, .int p2, .int p3])).length) Slot.unset).toArray = ls at hl ⊢
  have hl : lv_has ls 5 [(0, .ref h0), (1, .int p0), (2, .int p1), (3, .int p2), (4, .int p3)] := hl
  refine W_gen (A := A) hP (fun H locs hP hS => ?_)
  refine lv_aload_n hx hb dX2_add_0 rfl (lv_at hl 0 rfl) ?_
  refine va_get (D := (dC, dI)) (ci := 2) (v := .int a0) (C := RX2) (T := TX2) (N := 8) hx hb hts hinX2 hown hK hP 0 rfl rfl 6 (by decide) (hts (.fieldLink RX2 31 "MayRings$Letters" "count" "I") (List.mem_of_getElem? (i := 1) rfl)) (fun _ h9 => h9) rfl dX2_add_1 ?_
  refine lv_bipush (v := 20) hx hb dX2_add_4 (by decide) ?_
  refine lv_icmp_lt (tgt := 11) hx hb dX2_add_6 (by decide) (fun c_1 => ?_) (fun c_1 => ?_)
  · skip
    have h_2 : rg (0) (19) a0 := by have ha := ha0; have hb_ := (rg_k (x := 20) (c := 20) (by decide)); simp only [rg, fa_lt, fa_le, fa_eq, (by decide : (20 : Int32).toInt = 20)] at ha hb_ c_1; simp only [rg]; omega
    refine lv_aload_n hx hb dX2_add_11 rfl (lv_at hl 0 rfl) ?_
    refine va_get (D := (dC, dI)) (ci := 2) (v := .ref h1) (C := RX2) (T := TX2) (N := 8) hx hb hts hinX2 hown hK hP 0 rfl rfl 0 (by decide) (hts (.fieldLink RX2 11 "MayRings$Letters" "house" "[I") (List.mem_of_getElem? (i := 2) rfl)) (fun _ h9 => h9) rfl dX2_add_12 ?_
    refine lv_aload_n hx hb dX2_add_15 rfl (lv_at hl 0 rfl) ?_
    refine va_get (D := (dC, dI)) (ci := 2) (v := .int a0) (C := RX2) (T := TX2) (N := 8) hx hb hts hinX2 hown hK hP 0 rfl rfl 6 (by decide) (hts (.fieldLink RX2 31 "MayRings$Letters" "count" "I") (List.mem_of_getElem? (i := 1) rfl)) (fun _ h9 => h9) rfl dX2_add_16 ?_
    refine lv_iload_n hx hb dX2_add_19 rfl (lv_at hl 1 rfl) ?_
    refine va_iast hx hb hK hP hD hS 1 1 rfl rfl (rg_in (n := 20) (rg_mono h_2 (by decide) (by decide))) dX2_add_20 (fun H locs hP hD hS => ?_)
    obtain ⟨f_3, ef_3⟩ : ∃ f : Nat → Int32, f = upd g0 (a0 : Int32).toNatClampNeg p0 := ⟨_, rfl⟩
    rw [← ef_3] at hP hD
    have hf_3 : rgA (0) (8) f_3 := by rw [ef_3]; exact rgA_upd hg0 (rg_mono hp0 (by decide) (by decide))
    clear ef_3
    replace hP : va_P (dC, dI) vwCl [(h0, .inr (2, [.ref h1, .ref h2, .ref h3, .ref h4, .ref h5, .ref h6, .int a0, .int a1])), (h1, .inl (cI, 20, .inl f_3)), (h2, .inl (cI, 20, .inl g1)), (h3, .inl (cZ, 20, .inl g2)), (h4, .inl (cZ, 20, .inl g3)), (h5, .inl (cI, 20, .inl g4)), (h6, .inl (cI, 20, .inl g5))] H := hP
    replace hD : va_D A [(h0, .inr (2, [.ref h1, .ref h2, .ref h3, .ref h4, .ref h5, .ref h6, .int a0, .int a1])), (h1, .inl (cI, 20, .inl f_3)), (h2, .inl (cI, 20, .inl g1)), (h3, .inl (cZ, 20, .inl g2)), (h4, .inl (cZ, 20, .inl g3)), (h5, .inl (cI, 20, .inl g4)), (h6, .inl (cI, 20, .inl g5))] := hD
    refine lv_aload_n hx hb dX2_add_21 rfl (lv_at hl 0 rfl) ?_
    refine va_get (D := (dC, dI)) (ci := 2) (v := .ref h2) (C := RX2) (T := TX2) (N := 8) hx hb hts hinX2 hown hK hP 0 rfl rfl 1 (by decide) (hts (.fieldLink RX2 15 "MayRings$Letters" "where" "[I") (List.mem_of_getElem? (i := 3) rfl)) (fun _ h9 => h9) rfl dX2_add_22 ?_
    refine lv_aload_n hx hb dX2_add_25 rfl (lv_at hl 0 rfl) ?_
    refine va_get (D := (dC, dI)) (ci := 2) (v := .int a0) (C := RX2) (T := TX2) (N := 8) hx hb hts hinX2 hown hK hP 0 rfl rfl 6 (by decide) (hts (.fieldLink RX2 31 "MayRings$Letters" "count" "I") (List.mem_of_getElem? (i := 1) rfl)) (fun _ h9 => h9) rfl dX2_add_26 ?_
    refine lv_iload_n hx hb dX2_add_29 rfl (lv_at hl 2 rfl) ?_
    refine va_iast hx hb hK hP hD hS 2 1 rfl rfl (rg_in (n := 20) (rg_mono h_2 (by decide) (by decide))) dX2_add_30 (fun H locs hP hD hS => ?_)
    obtain ⟨f_4, ef_4⟩ : ∃ f : Nat → Int32, f = upd g1 (a0 : Int32).toNatClampNeg p1 := ⟨_, rfl⟩
    rw [← ef_4] at hP hD
    have hf_4 : rgA (0) (8) f_4 := by rw [ef_4]; exact rgA_upd hg1 (rg_mono hp1 (by decide) (by decide))
    clear ef_4
    replace hP : va_P (dC, dI) vwCl [(h0, .inr (2, [.ref h1, .ref h2, .ref h3, .ref h4, .ref h5, .ref h6, .int a0, .int a1])), (h1, .inl (cI, 20, .inl f_3)), (h2, .inl (cI, 20, .inl f_4)), (h3, .inl (cZ, 20, .inl g2)), (h4, .inl (cZ, 20, .inl g3)), (h5, .inl (cI, 20, .inl g4)), (h6, .inl (cI, 20, .inl g5))] H := hP
    replace hD : va_D A [(h0, .inr (2, [.ref h1, .ref h2, .ref h3, .ref h4, .ref h5, .ref h6, .int a0, .int a1])), (h1, .inl (cI, 20, .inl f_3)), (h2, .inl (cI, 20, .inl f_4)), (h3, .inl (cZ, 20, .inl g2)), (h4, .inl (cZ, 20, .inl g3)), (h5, .inl (cI, 20, .inl g4)), (h6, .inl (cI, 20, .inl g5))] := hD
    refine lv_aload_n hx hb dX2_add_31 rfl (lv_at hl 0 rfl) ?_
    refine va_get (D := (dC, dI)) (ci := 2) (v := .ref h3) (C := RX2) (T := TX2) (N := 8) hx hb hts hinX2 hown hK hP 0 rfl rfl 2 (by decide) (hts (.fieldLink RX2 18 "MayRings$Letters" "ofPlace" "[Z") (List.mem_of_getElem? (i := 4) rfl)) (fun _ h9 => h9) rfl dX2_add_32 ?_
    refine lv_aload_n hx hb dX2_add_35 rfl (lv_at hl 0 rfl) ?_
    refine va_get (D := (dC, dI)) (ci := 2) (v := .int a0) (C := RX2) (T := TX2) (N := 8) hx hb hts hinX2 hown hK hP 0 rfl rfl 6 (by decide) (hts (.fieldLink RX2 31 "MayRings$Letters" "count" "I") (List.mem_of_getElem? (i := 1) rfl)) (fun _ h9 => h9) rfl dX2_add_36 ?_
    refine lv_iload_n hx hb dX2_add_39 rfl (lv_at hl 3 rfl) ?_
    refine va_zast hx hb hK hP hD hS 3 3 rfl rfl (rg_in (n := 20) (rg_mono h_2 (by decide) (by decide))) dX2_add_40 (fun H locs hP hD hS => ?_)
    obtain ⟨f_5, ef_5⟩ : ∃ f : Nat → Int32, f = upd g2 (a0 : Int32).toNatClampNeg (vp_nar .boolean p2) := ⟨_, rfl⟩
    rw [← ef_5] at hP hD
    have hf_5 : rgA (0) (1) f_5 := by rw [ef_5]; exact rgA_updZ hg2 (rg_mono hp2 (by decide) (by decide)) (rg_mono hp2 (by decide) (by decide))
    clear ef_5
    replace hP : va_P (dC, dI) vwCl [(h0, .inr (2, [.ref h1, .ref h2, .ref h3, .ref h4, .ref h5, .ref h6, .int a0, .int a1])), (h1, .inl (cI, 20, .inl f_3)), (h2, .inl (cI, 20, .inl f_4)), (h3, .inl (cZ, 20, .inl f_5)), (h4, .inl (cZ, 20, .inl g3)), (h5, .inl (cI, 20, .inl g4)), (h6, .inl (cI, 20, .inl g5))] H := hP
    replace hD : va_D A [(h0, .inr (2, [.ref h1, .ref h2, .ref h3, .ref h4, .ref h5, .ref h6, .int a0, .int a1])), (h1, .inl (cI, 20, .inl f_3)), (h2, .inl (cI, 20, .inl f_4)), (h3, .inl (cZ, 20, .inl f_5)), (h4, .inl (cZ, 20, .inl g3)), (h5, .inl (cI, 20, .inl g4)), (h6, .inl (cI, 20, .inl g5))] := hD
    refine lv_aload_n hx hb dX2_add_41 rfl (lv_at hl 0 rfl) ?_
    refine va_get (D := (dC, dI)) (ci := 2) (v := .ref h4) (C := RX2) (T := TX2) (N := 8) hx hb hts hinX2 hown hK hP 0 rfl rfl 3 (by decide) (hts (.fieldLink RX2 22 "MayRings$Letters" "isSo" "[Z") (List.mem_of_getElem? (i := 5) rfl)) (fun _ h9 => h9) rfl dX2_add_42 ?_
    refine lv_aload_n hx hb dX2_add_45 rfl (lv_at hl 0 rfl) ?_
    refine va_get (D := (dC, dI)) (ci := 2) (v := .int a0) (C := RX2) (T := TX2) (N := 8) hx hb hts hinX2 hown hK hP 0 rfl rfl 6 (by decide) (hts (.fieldLink RX2 31 "MayRings$Letters" "count" "I") (List.mem_of_getElem? (i := 1) rfl)) (fun _ h9 => h9) rfl dX2_add_46 ?_
    refine lv_iload hx hb dX2_add_49 (lv_at hl 4 rfl) ?_
    refine va_zast hx hb hK hP hD hS 4 3 rfl rfl (rg_in (n := 20) (rg_mono h_2 (by decide) (by decide))) dX2_add_51 (fun H locs hP hD hS => ?_)
    obtain ⟨f_6, ef_6⟩ : ∃ f : Nat → Int32, f = upd g3 (a0 : Int32).toNatClampNeg (vp_nar .boolean p3) := ⟨_, rfl⟩
    rw [← ef_6] at hP hD
    have hf_6 : rgA (0) (1) f_6 := by rw [ef_6]; exact rgA_updZ hg3 (rg_mono hp3 (by decide) (by decide)) (rg_mono hp3 (by decide) (by decide))
    clear ef_6
    replace hP : va_P (dC, dI) vwCl [(h0, .inr (2, [.ref h1, .ref h2, .ref h3, .ref h4, .ref h5, .ref h6, .int a0, .int a1])), (h1, .inl (cI, 20, .inl f_3)), (h2, .inl (cI, 20, .inl f_4)), (h3, .inl (cZ, 20, .inl f_5)), (h4, .inl (cZ, 20, .inl f_6)), (h5, .inl (cI, 20, .inl g4)), (h6, .inl (cI, 20, .inl g5))] H := hP
    replace hD : va_D A [(h0, .inr (2, [.ref h1, .ref h2, .ref h3, .ref h4, .ref h5, .ref h6, .int a0, .int a1])), (h1, .inl (cI, 20, .inl f_3)), (h2, .inl (cI, 20, .inl f_4)), (h3, .inl (cZ, 20, .inl f_5)), (h4, .inl (cZ, 20, .inl f_6)), (h5, .inl (cI, 20, .inl g4)), (h6, .inl (cI, 20, .inl g5))] := hD
    refine lv_aload_n hx hb dX2_add_52 rfl (lv_at hl 0 rfl) ?_
    refine va_get (D := (dC, dI)) (ci := 2) (v := .ref h5) (C := RX2) (T := TX2) (N := 8) hx hb hts hinX2 hown hK hP 0 rfl rfl 4 (by decide) (hts (.fieldLink RX2 25 "MayRings$Letters" "toldAt" "[I") (List.mem_of_getElem? (i := 6) rfl)) (fun _ h9 => h9) rfl dX2_add_53 ?_
    refine lv_aload_n hx hb dX2_add_56 rfl (lv_at hl 0 rfl) ?_
    refine va_get (D := (dC, dI)) (ci := 2) (v := .int a0) (C := RX2) (T := TX2) (N := 8) hx hb hts hinX2 hown hK hP 0 rfl rfl 6 (by decide) (hts (.fieldLink RX2 31 "MayRings$Letters" "count" "I") (List.mem_of_getElem? (i := 1) rfl)) (fun _ h9 => h9) rfl dX2_add_57 ?_
    refine lv_aload_n hx hb dX2_add_60 rfl (lv_at hl 0 rfl) ?_
    refine va_get (D := (dC, dI)) (ci := 2) (v := .int a1) (C := RX2) (T := TX2) (N := 8) hx hb hts hinX2 hown hK hP 0 rfl rfl 7 (by decide) (hts (.fieldLink RX2 35 "MayRings$Letters" "time" "I") (List.mem_of_getElem? (i := 7) rfl)) (fun _ h9 => h9) rfl dX2_add_61 ?_
    refine va_iast hx hb hK hP hD hS 5 1 rfl rfl (rg_in (n := 20) (rg_mono h_2 (by decide) (by decide))) dX2_add_64 (fun H locs hP hD hS => ?_)
    obtain ⟨f_7, ef_7⟩ : ∃ f : Nat → Int32, f = upd g4 (a0 : Int32).toNatClampNeg a1 := ⟨_, rfl⟩
    rw [← ef_7] at hP hD
    clear ef_7
    replace hP : va_P (dC, dI) vwCl [(h0, .inr (2, [.ref h1, .ref h2, .ref h3, .ref h4, .ref h5, .ref h6, .int a0, .int a1])), (h1, .inl (cI, 20, .inl f_3)), (h2, .inl (cI, 20, .inl f_4)), (h3, .inl (cZ, 20, .inl f_5)), (h4, .inl (cZ, 20, .inl f_6)), (h5, .inl (cI, 20, .inl f_7)), (h6, .inl (cI, 20, .inl g5))] H := hP
    replace hD : va_D A [(h0, .inr (2, [.ref h1, .ref h2, .ref h3, .ref h4, .ref h5, .ref h6, .int a0, .int a1])), (h1, .inl (cI, 20, .inl f_3)), (h2, .inl (cI, 20, .inl f_4)), (h3, .inl (cZ, 20, .inl f_5)), (h4, .inl (cZ, 20, .inl f_6)), (h5, .inl (cI, 20, .inl f_7)), (h6, .inl (cI, 20, .inl g5))] := hD
    refine lv_aload_n hx hb dX2_add_65 rfl (lv_at hl 0 rfl) ?_
    refine va_get (D := (dC, dI)) (ci := 2) (v := .ref h6) (C := RX2) (T := TX2) (N := 8) hx hb hts hinX2 hown hK hP 0 rfl rfl 5 (by decide) (hts (.fieldLink RX2 28 "MayRings$Letters" "untoldAt" "[I") (List.mem_of_getElem? (i := 8) rfl)) (fun _ h9 => h9) rfl dX2_add_66 ?_
    refine lv_aload_n hx hb dX2_add_69 rfl (lv_at hl 0 rfl) ?_
    refine va_get (D := (dC, dI)) (ci := 2) (v := .int a0) (C := RX2) (T := TX2) (N := 8) hx hb hts hinX2 hown hK hP 0 rfl rfl 6 (by decide) (hts (.fieldLink RX2 31 "MayRings$Letters" "count" "I") (List.mem_of_getElem? (i := 1) rfl)) (fun _ h9 => h9) rfl dX2_add_70 ?_
    refine lv_iconst (v := (-1)) hx hb dX2_add_73 (by decide) ?_
    refine va_iast hx hb hK hP hD hS 6 1 rfl rfl (rg_in (n := 20) (rg_mono h_2 (by decide) (by decide))) dX2_add_74 (fun H locs hP hD hS => ?_)
    obtain ⟨f_8, ef_8⟩ : ∃ f : Nat → Int32, f = upd g5 (a0 : Int32).toNatClampNeg (-1) := ⟨_, rfl⟩
    rw [← ef_8] at hP hD
    clear ef_8
    replace hP : va_P (dC, dI) vwCl [(h0, .inr (2, [.ref h1, .ref h2, .ref h3, .ref h4, .ref h5, .ref h6, .int a0, .int a1])), (h1, .inl (cI, 20, .inl f_3)), (h2, .inl (cI, 20, .inl f_4)), (h3, .inl (cZ, 20, .inl f_5)), (h4, .inl (cZ, 20, .inl f_6)), (h5, .inl (cI, 20, .inl f_7)), (h6, .inl (cI, 20, .inl f_8))] H := hP
    replace hD : va_D A [(h0, .inr (2, [.ref h1, .ref h2, .ref h3, .ref h4, .ref h5, .ref h6, .int a0, .int a1])), (h1, .inl (cI, 20, .inl f_3)), (h2, .inl (cI, 20, .inl f_4)), (h3, .inl (cZ, 20, .inl f_5)), (h4, .inl (cZ, 20, .inl f_6)), (h5, .inl (cI, 20, .inl f_7)), (h6, .inl (cI, 20, .inl f_8))] := hD
    refine lv_aload_n hx hb dX2_add_75 rfl (lv_at hl 0 rfl) ?_
    refine lv_dup hx hb dX2_add_76 rfl ?_
    refine va_get (D := (dC, dI)) (ci := 2) (v := .int a0) (C := RX2) (T := TX2) (N := 8) hx hb hts hinX2 hown hK hP 0 rfl rfl 6 (by decide) (hts (.fieldLink RX2 31 "MayRings$Letters" "count" "I") (List.mem_of_getElem? (i := 1) rfl)) (fun _ h9 => h9) rfl dX2_add_77 ?_
    refine lv_iconst (v := 1) hx hb dX2_add_80 (by decide) ?_
    refine lv_iadd hx hb dX2_add_81 ?_
    refine lv_topi (fun x_9 ex_9 => ?_)
    have hx_9 : rg (1) (20) x_9 := by rw [ex_9]; exact rg_mono (rg_add h_2 (rg_k (x := 1) (c := 1) (by decide)) (by decide) (by decide)) (by decide) (by decide)
    have qx_9 : x_9.toInt = a0.toInt + (1) := by rw [ex_9]; exact rg_addE h_2 (rg_k (x := 1) (c := 1) (by decide)) (by decide) (by decide) trivial
    refine va_put (D := (dC, dI)) (ci := 2) (v := .int x_9) (ty := .int) (C := RX2) (T := TX2) (N := 8) hx hb hts hinX2 tyX2 tyX2_ok nmX2 hown hK hP hD hS 0 rfl rfl 6 (by decide) (hts (.fieldLink RX2 31 "MayRings$Letters" "count" "I") (List.mem_of_getElem? (i := 1) rfl)) (fun _ h9 => h9) rfl (by decide +kernel) (rfl) (rfl) (Nat.le_of_ble_eq_true rfl) dX2_add_82 (fun H locs hP hD hS => ?_)
    replace hP : va_P (dC, dI) vwCl [(h0, .inr (2, [.ref h1, .ref h2, .ref h3, .ref h4, .ref h5, .ref h6, .int x_9, .int a1])), (h1, .inl (cI, 20, .inl f_3)), (h2, .inl (cI, 20, .inl f_4)), (h3, .inl (cZ, 20, .inl f_5)), (h4, .inl (cZ, 20, .inl f_6)), (h5, .inl (cI, 20, .inl f_7)), (h6, .inl (cI, 20, .inl f_8))] H := hP
    replace hD : va_D A [(h0, .inr (2, [.ref h1, .ref h2, .ref h3, .ref h4, .ref h5, .ref h6, .int x_9, .int a1])), (h1, .inl (cI, 20, .inl f_3)), (h2, .inl (cI, 20, .inl f_4)), (h3, .inl (cZ, 20, .inl f_5)), (h4, .inl (cZ, 20, .inl f_6)), (h5, .inl (cI, 20, .inl f_7)), (h6, .inl (cI, 20, .inl f_8))] := hD
    refine lv_aload_n hx hb dX2_add_85 rfl (lv_at hl 0 rfl) ?_
    refine va_get (D := (dC, dI)) (ci := 2) (v := .int x_9) (C := RX2) (T := TX2) (N := 8) hx hb hts hinX2 hown hK hP 0 rfl rfl 6 (by decide) (hts (.fieldLink RX2 31 "MayRings$Letters" "count" "I") (List.mem_of_getElem? (i := 1) rfl)) (fun _ h9 => h9) rfl dX2_add_86 ?_
    refine lv_iconst (v := 1) hx hb dX2_add_89 (by decide) ?_
    refine lv_isub hx hb dX2_add_90 ?_
    refine lv_topi (fun x_10 ex_10 => ?_)
    have hx_10 : rg (0) (19) x_10 := by rw [ex_10]; exact rg_mono (rg_sub hx_9 (rg_k (x := 1) (c := 1) (by decide)) (by decide) (by decide)) (by decide) (by decide)
    have qx_10 : x_10.toInt = x_9.toInt + (-1) := by rw [ex_10]; exact rg_subE hx_9 (rg_k (x := 1) (c := 1) (by decide)) (by decide) (by decide) trivial
    have hP9 := hP.sub (ws' := [(h0, .inr (2, [.ref h1, .ref h2, .ref h3, .ref h4, .ref h5, .ref h6, .int x_9, .int a1])), (h1, .inl (cI, 20, .inl f_3)), (h2, .inl (cI, 20, .inl f_4)), (h3, .inl (cZ, 20, .inl f_5)), (h4, .inl (cZ, 20, .inl f_6)), (h5, .inl (cI, 20, .inl f_7)), (h6, .inl (cI, 20, .inl f_8))]) [0, 1, 2, 3, 4, 5, 6] rfl
    have hD9 := hD.sub (ws' := [(h0, .inr (2, [.ref h1, .ref h2, .ref h3, .ref h4, .ref h5, .ref h6, .int x_9, .int a1])), (h1, .inl (cI, 20, .inl f_3)), (h2, .inl (cI, 20, .inl f_4)), (h3, .inl (cZ, 20, .inl f_5)), (h4, .inl (cZ, 20, .inl f_6)), (h5, .inl (cI, 20, .inl f_7)), (h6, .inl (cI, 20, .inl f_8))]) [0, 1, 2, 3, 4, 5, 6] (by decide) rfl
    exact W.iret (v := x_10) hx hb hr (fun t ht hW => ⟨⟨x_10, (), rfl, (rg_mono hx_10 (by decide) (by decide)), ⟨x_9, f_3, f_4, f_5, f_6, f_7, f_8, (rg_mono hx_9 (by decide) (by decide)), hf_3, hf_4, hf_5, hf_6, by rw [ht]; exact hP9, hD9⟩⟩, hS.F ht⟩) hS.2.2 dX2_add_91
  · skip
    have h_11 : rg (20) (20) a0 := by have ha := ha0; have hb_ := (rg_k (x := 20) (c := 20) (by decide)); simp only [rg, fa_lt, fa_le, fa_eq, (by decide : (20 : Int32).toInt = 20)] at ha hb_ c_1; simp only [rg]; omega
    refine lv_iconst (v := (-1)) hx hb dX2_add_9 (by decide) ?_
    have hP9 := hP.sub (ws' := [(h0, .inr (2, [.ref h1, .ref h2, .ref h3, .ref h4, .ref h5, .ref h6, .int a0, .int a1])), (h1, .inl (cI, 20, .inl g0)), (h2, .inl (cI, 20, .inl g1)), (h3, .inl (cZ, 20, .inl g2)), (h4, .inl (cZ, 20, .inl g3)), (h5, .inl (cI, 20, .inl g4)), (h6, .inl (cI, 20, .inl g5))]) [0, 1, 2, 3, 4, 5, 6] rfl
    have hD9 := hD.sub (ws' := [(h0, .inr (2, [.ref h1, .ref h2, .ref h3, .ref h4, .ref h5, .ref h6, .int a0, .int a1])), (h1, .inl (cI, 20, .inl g0)), (h2, .inl (cI, 20, .inl g1)), (h3, .inl (cZ, 20, .inl g2)), (h4, .inl (cZ, 20, .inl g3)), (h5, .inl (cI, 20, .inl g4)), (h6, .inl (cI, 20, .inl g5))]) [0, 1, 2, 3, 4, 5, 6] (by decide) rfl
    exact W.iret (v := (-1)) hx hb hr (fun t ht hW => ⟨⟨(-1), (), rfl, (rg_mono (rg_k (x := (-1)) (c := -1) (by decide)) (by decide) (by decide)), ⟨a0, g0, g1, g2, g3, g4, g5, (rg_mono h_11 (by decide) (by decide)), hg0, hg1, hg2, hg3, by rw [ht]; exact hP9, hD9⟩⟩, hS.F ht⟩) hS.2.2 dX2_add_10
def v_s_X7_heedPair : List Cond := Cond.code yX7_heedPair cX7_heedPair 4 none :: ([Cond.fieldLink RX7 30 "MayRings$Ways" "houses" "I", Cond.fieldLink RX7 44 "MayRings$Ways" "never" "Z", Cond.fieldLink RX7 18 "MayRings$Ways" "must" "[I", Cond.fieldLink RX7 15 "MayRings$Ways" "pairs" "[I"] ++ (wsX70 ++ ([])))
theorem k_s_X7_heedPair : GoodIn lw_tbl v_s_X7_heedPair := gd_c (List.mem_of_getElem? (i := 1186) (by decide +kernel)) rfl (goodIn_app (gd_c (List.mem_of_getElem? (i := 452) (by decide +kernel)) rfl (gd_c (List.mem_of_getElem? (i := 461) (by decide +kernel)) rfl (gd_c (List.mem_of_getElem? (i := 446) (by decide +kernel)) rfl (gd_c (List.mem_of_getElem? (i := 443) (by decide +kernel)) rfl (gd_nil))))) (goodIn_app kfX7 (gd_nil)))
set_option maxHeartbeats 2000000 in
set_option maxRecDepth 100000 in
theorem c_s_X7_heedPair (l : Launch) (dC : Nat → ClassId) (dI : Nat → Nat → Nat) (cB cI cJ cZ cP : ClassId) (h0 : Nat) (h1 : Nat) (h2 : Nat) (g1 : Nat → Int32) (hg1 : rgA (0) (511) g1) (h3 : Nat) (g2 : Nat → Int32) (hg2 : rgA (0) (511) g2) (h4 : Nat) (h5 : Nat) (h6 : Nat) (a0 : Int32) (ha0 : rg (0) (511) a0) (a1 : Int32) (a2 : Int32) (a3 : Int32) (a4 : Int32) (ha4 : rg (0) (1) a4) (a5 : Int32) (a6 : Int32) (a7 : Int32) (p0 : Int32) (hp0 : rg (0) (8) p0) (p1 : Int32) (hp1 : rg (0) (8) p1) (p2 : Int32) (hp2 : rg (0) (1) p2) (sz : Nat) : Met l yX7_heedPair v_s_X7_heedPair ({ frames := 0, cells := 0, slots := 0, locals := 0 }) (va_Pc [.ref h0, .int p0, .int p1, .int p2] (fun U => U.heap.size = sz ∧ va_P (dC, dI) vwCl [(h0, .inr (7, [.ref h1, .ref h2, .ref h3, .ref h4, .ref h5, .ref h6, .int a0, .int a1, .int a2, .int a3, .int a4, .int a5, .int a6, .int a7])), (h2, .inl (cI, 9, .inl g1)), (h3, .inl (cI, 9, .inl g2))] U.heap ∧ va_K (dC, dI) vwCl (ty5 cB cI cJ cZ cP) U ∧ va_D (fun _ => True) [(h0, .inr (7, [.ref h1, .ref h2, .ref h3, .ref h4, .ref h5, .ref h6, .int a0, .int a1, .int a2, .int a3, .int a4, .int a5, .int a6, .int a7])), (h2, .inl (cI, 9, .inl g1)), (h3, .inl (cI, 9, .inl g2))])) (va_Qv (fun _ : Unit => True) (fun _ t => ∃ (z0 : Int32) (z1 : Nat → Int32) (z2 : Nat → Int32), rg (0) (1) z0 ∧ rgA (0) (511) z1 ∧ rgA (0) (511) z2 ∧ va_P (dC, dI) vwCl [(h0, .inr (7, [.ref h1, .ref h2, .ref h3, .ref h4, .ref h5, .ref h6, .int a0, .int a1, .int a2, .int a3, .int z0, .int a5, .int a6, .int a7])), (h2, .inl (cI, 9, .inl z1)), (h3, .inl (cI, 9, .inl z2))] t.heap ∧ va_D (va_A [(h0, .inr (7, [.ref h1, .ref h2, .ref h3, .ref h4, .ref h5, .ref h6, .int a0, .int a1, .int a2, .int a3, .int a4, .int a5, .int a6, .int a7])), (h2, .inl (cI, 9, .inl g1)), (h3, .inl (cI, 9, .inl g2))] sz) [(h0, .inr (7, [.ref h1, .ref h2, .ref h3, .ref h4, .ref h5, .ref h6, .int a0, .int a1, .int a2, .int a3, .int z0, .int a5, .int a6, .int a7])), (h2, .inl (cI, 9, .inl z1)), (h3, .inl (cI, 9, .inl z2))]) (va_A [(h0, .inr (7, [.ref h1, .ref h2, .ref h3, .ref h4, .ref h5, .ref h6, .int a0, .int a1, .int a2, .int a3, .int a4, .int a5, .int a6, .int a7])), (h2, .inl (cI, 9, .inl g1)), (h3, .inl (cI, 9, .inl g2))] sz)) 0 0 (va_A [(h0, .inr (7, [.ref h1, .ref h2, .ref h3, .ref h4, .ref h5, .ref h6, .int a0, .int a1, .int a2, .int a3, .int a4, .int a5, .int a6, .int a7])), (h2, .inl (cI, 9, .inl g1)), (h3, .inl (cI, 9, .inl g2))] sz) := by
  refine Met.ofW (cc := cX7_heedPair) (maxL := 4) (ret := none) (by decide) rfl ?_
  intro p e s m args below meth c s₁ B hml hv
  obtain ⟨rfl, hsz, hP, hK, hD0⟩ := hv
  have hx := B.exec
  have hb := B.bytes
  have hr := B.returns
  have hts := atoms_spec (ws := v_s_X7_heedPair) B.pre
  have hown : s.vm.findClass RX7 = some m.cls := findClass_of_methodNamed B.named
  have hlocks := B.notSynchronized
  have hinX7 : ∀ w ∈ wsX70, w ∈ v_s_X7_heedPair := fun _ h => List.mem_cons_of_mem _ (List.mem_append_right _ (List.mem_append_left _ h))
  subst hsz
  have hD := hD0.self (sz := s.heap.size)
  generalize hAe : va_A [(h0, .inr (7, [.ref h1, .ref h2, .ref h3, .ref h4, .ref h5, .ref h6, .int a0, .int a1, .int a2, .int a3, .int a4, .int a5, .int a6, .int a7])), (h2, .inl (cI, 9, .inl g1)), (h3, .inl (cI, 9, .inl g2))] s.heap.size = A at hD ⊢
  have hA : ∀ q : Nat, s.heap.size ≤ q → A q := fun q h => by rw [← hAe]; exact Or.inr h
  have hP : va_P (dC, dI) vwCl [(h0, .inr (7, [.ref h1, .ref h2, .ref h3, .ref h4, .ref h5, .ref h6, .int a0, .int a1, .int a2, .int a3, .int a4, .int a5, .int a6, .int a7])), (h2, .inl (cI, 9, .inl g1)), (h3, .inl (cI, 9, .inl g2))] s.heap := hP
  have hl := lv_entry ([.ref h0, .int p0, .int p1, .int p2]) (n := 4) (Nat.le_of_ble_eq_true rfl)
  rw [lg_entry_eq]
  generalize (lg_sl ([.ref h0, .int p0, .int p1, .int p2]) ++ List.replicate (4 - (lg_sl ([.ref h0, .int p0, .int p1, .int p2])).length) Slot.unset).toArray = ls at hl ⊢
  have hl : lv_has ls 4 [(0, .ref h0), (1, .int p0), (2, .int p1), (3, .int p2)] := hl
  refine W_gen (A := A) hP (fun H locs hP hS => ?_)
  refine lv_iload_n hx hb dX7_heedPair_0 rfl (lv_at hl 3 rfl) ?_
  refine lv_if_ne (tgt := 35) hx hb dX7_heedPair_1 (by decide) (fun c_1 => ?_) (fun c_1 => ?_)
  · skip
    have h_2 : rg (1) (1) p2 := by have ha := hp2; have hb_ := (rg_k (x := 0) (c := 0) (by decide)); simp only [rg, fa_lt, fa_le, fa_eq, (by decide : (0 : Int32).toInt = 0)] at ha hb_ c_1; simp only [rg]; omega
    refine lv_aload_n hx hb dX7_heedPair_35 rfl (lv_at hl 0 rfl) ?_
    refine va_get (D := (dC, dI)) (ci := 7) (v := .int a0) (C := RX7) (T := TX7) (N := 14) hx hb hts hinX7 hown hK hP 0 rfl rfl 6 (by decide) (hts (.fieldLink RX7 30 "MayRings$Ways" "houses" "I") (List.mem_of_getElem? (i := 1) rfl)) (fun _ h9 => h9) rfl dX7_heedPair_36 ?_
    refine lv_iload_n hx hb dX7_heedPair_39 rfl (lv_at hl 1 rfl) ?_
    refine lv_ishr hx hb dX7_heedPair_40 ?_
    refine lv_topi (fun x_3 ex_3 => ?_)
    have hx_3 : rg (0) (511) x_3 := by rw [ex_3]; exact rg_mono (rg_shr (b := 511) (rg_mono ha0 (by decide) (by decide))) (by decide) (by decide)
    have kx_3_0 : rg 1 2147483647 x_3 → rg 1 (511) a0 := fun hq => rg_shrP ha0 (ex_3 ▸ hq)
    refine lv_aload_n hx hb dX7_heedPair_41 rfl (lv_at hl 0 rfl) ?_
    refine va_get (D := (dC, dI)) (ci := 7) (v := .int a0) (C := RX7) (T := TX7) (N := 14) hx hb hts hinX7 hown hK hP 0 rfl rfl 6 (by decide) (hts (.fieldLink RX7 30 "MayRings$Ways" "houses" "I") (List.mem_of_getElem? (i := 1) rfl)) (fun _ h9 => h9) rfl dX7_heedPair_42 ?_
    refine lv_iload_n hx hb dX7_heedPair_45 rfl (lv_at hl 2 rfl) ?_
    refine lv_ishr hx hb dX7_heedPair_46 ?_
    refine lv_topi (fun x_4 ex_4 => ?_)
    have hx_4 : rg (0) (511) x_4 := by rw [ex_4]; exact rg_mono (rg_shr (b := 511) (rg_mono ha0 (by decide) (by decide))) (by decide) (by decide)
    have kx_4_0 : rg 1 2147483647 x_4 → rg 1 (511) a0 := fun hq => rg_shrP ha0 (ex_4 ▸ hq)
    refine lv_iand hx hb dX7_heedPair_47 ?_
    refine lv_topi (fun x_5 ex_5 => ?_)
    have hx_5 : rg (0) (511) x_5 := by rw [ex_5]; exact rg_mono (rg_andl (b := 511) (rg_mono hx_3 (by decide) (by decide))) (by decide) (by decide)
    have kx_5_0 : rg 1 2147483647 x_5 → rg 1 (511) x_3 := fun hq => rg_andP hx_3 (ex_5 ▸ hq)
    have kx_5_1 : rg 1 2147483647 x_5 → rg 1 (511) x_4 := fun hq => rg_andP' hx_4 (ex_5 ▸ hq)
    refine lv_iconst (v := 1) hx hb dX7_heedPair_48 (by decide) ?_
    refine lv_iand hx hb dX7_heedPair_49 ?_
    refine lv_topi (fun x_6 ex_6 => ?_)
    have hx_6 : rg (0) (1) x_6 := by rw [ex_6]; exact rg_mono (rg_andr (b := 1) (rg_mono (rg_k (x := 1) (c := 1) (by decide)) (by decide) (by decide))) (by decide) (by decide)
    have kx_6_0 : rg 1 2147483647 x_6 → rg 1 (511) x_5 := fun hq => rg_andP hx_5 (ex_6 ▸ hq)
    refine lv_iconst (v := 1) hx hb dX7_heedPair_50 (by decide) ?_
    refine lv_icmp_ne (tgt := 81) hx hb dX7_heedPair_51 (by decide) (fun c_7 => ?_) (fun c_7 => ?_)
    · skip
      have h_8 : rg (0) (0) x_6 := by have ha := hx_6; have hb_ := (rg_k (x := 1) (c := 1) (by decide)); simp only [rg, fa_lt, fa_le, fa_eq, (by decide : (1 : Int32).toInt = 1)] at ha hb_ c_7; simp only [rg]; omega
      refine lv_aload_n hx hb dX7_heedPair_81 rfl (lv_at hl 0 rfl) ?_
      refine lv_iconst (v := 1) hx hb dX7_heedPair_82 (by decide) ?_
      refine va_put (D := (dC, dI)) (ci := 7) (v := .int 1) (ty := .boolean) (C := RX7) (T := TX7) (N := 14) hx hb hts hinX7 tyX7 tyX7_ok nmX7 hown hK hP hD hS 0 rfl rfl 10 (by decide) (hts (.fieldLink RX7 44 "MayRings$Ways" "never" "Z") (List.mem_of_getElem? (i := 2) rfl)) (fun _ h9 => h9) rfl (by decide +kernel) (rfl) (rfl) (Nat.le_of_ble_eq_true rfl) dX7_heedPair_83 (fun H locs hP hD hS => ?_)
      replace hP : va_P (dC, dI) vwCl [(h0, .inr (7, [.ref h1, .ref h2, .ref h3, .ref h4, .ref h5, .ref h6, .int a0, .int a1, .int a2, .int a3, .int 1, .int a5, .int a6, .int a7])), (h2, .inl (cI, 9, .inl g1)), (h3, .inl (cI, 9, .inl g2))] H := hP
      replace hD : va_D A [(h0, .inr (7, [.ref h1, .ref h2, .ref h3, .ref h4, .ref h5, .ref h6, .int a0, .int a1, .int a2, .int a3, .int 1, .int a5, .int a6, .int a7])), (h2, .inl (cI, 9, .inl g1)), (h3, .inl (cI, 9, .inl g2))] := hD
      have hP9 := hP.sub (ws' := [(h0, .inr (7, [.ref h1, .ref h2, .ref h3, .ref h4, .ref h5, .ref h6, .int a0, .int a1, .int a2, .int a3, .int 1, .int a5, .int a6, .int a7])), (h2, .inl (cI, 9, .inl g1)), (h3, .inl (cI, 9, .inl g2))]) [0, 1, 2] rfl
      have hD9 := hD.sub (ws' := [(h0, .inr (7, [.ref h1, .ref h2, .ref h3, .ref h4, .ref h5, .ref h6, .int a0, .int a1, .int a2, .int a3, .int 1, .int a5, .int a6, .int a7])), (h2, .inl (cI, 9, .inl g1)), (h3, .inl (cI, 9, .inl g2))]) [0, 1, 2] (by decide) rfl
      exact W.vret hx hb hr (fun t ht hW => ⟨⟨(), rfl, trivial, ⟨1, g1, g2, (rg_mono (rg_k (x := 1) (c := 1) (by decide)) (by decide) (by decide)), hg1, hg2, by rw [ht]; exact hP9, hD9⟩⟩, hS.F ht⟩) hS.2.2 dX7_heedPair_86
    · skip
      have h_9 : rg (1) (1) x_6 := by have ha := hx_6; have hb_ := (rg_k (x := 1) (c := 1) (by decide)); simp only [rg, fa_lt, fa_le, fa_eq, (by decide : (1 : Int32).toInt = 1)] at ha hb_ c_7; simp only [rg]; omega
      have h_10 : rg (1) (511) x_5 := rg_meet hx_5 (kx_6_0 (rg_mono h_9 (by decide) (by decide))) (by decide) (by decide)
      have h_11 : rg (1) (511) x_3 := rg_meet hx_3 (kx_5_0 (rg_mono h_10 (by decide) (by decide))) (by decide) (by decide)
      have h_12 : rg (1) (511) a0 := rg_meet ha0 (kx_3_0 (rg_mono h_11 (by decide) (by decide))) (by decide) (by decide)
      have h_13 : rg (1) (511) x_4 := rg_meet hx_4 (kx_5_1 (rg_mono h_10 (by decide) (by decide))) (by decide) (by decide)
      refine lv_aload_n hx hb dX7_heedPair_54 rfl (lv_at hl 0 rfl) ?_
      refine va_get (D := (dC, dI)) (ci := 7) (v := .ref h3) (C := RX7) (T := TX7) (N := 14) hx hb hts hinX7 hown hK hP 0 rfl rfl 2 (by decide) (hts (.fieldLink RX7 18 "MayRings$Ways" "must" "[I") (List.mem_of_getElem? (i := 3) rfl)) (fun _ h9 => h9) rfl dX7_heedPair_55 ?_
      refine lv_iload_n hx hb dX7_heedPair_58 rfl (lv_at hl 1 rfl) ?_
      refine lv_dup2_11 hx hb dX7_heedPair_59 rfl rfl ?_
      refine va_iald hx hb hK hP 2 1 rfl rfl (rg_in (n := 9) (rg_mono hp0 (by decide) (by decide))) dX7_heedPair_60 ?_
      refine lv_topi (fun x_14 ex_14 => ?_)
      have hx_14 : rg (0) (511) x_14 := by rw [ex_14]; exact rg_mono (hg2 _) (by decide) (by decide)
      refine lv_iconst (v := 1) hx hb dX7_heedPair_61 (by decide) ?_
      refine lv_iload_n hx hb dX7_heedPair_62 rfl (lv_at hl 2 rfl) ?_
      refine lv_ishl hx hb dX7_heedPair_63 ?_
      refine lv_topi (fun x_15 ex_15 => ?_)
      have hx_15 : rg (1) (256) x_15 := by rw [ex_15]; exact rg_mono (rg_shl1 8 (rg_mono hp1 (by decide) (by decide)) (by decide)) (by decide) (by decide)
      refine lv_ior hx hb dX7_heedPair_64 ?_
      refine lv_topi (fun x_16 ex_16 => ?_)
      have hx_16 : rg (0) (511) x_16 := by rw [ex_16]; exact rg_mono (rg_or 9 (rg_mono hx_14 (by decide) (by decide)) (rg_mono hx_15 (by decide) (by decide)) (by decide)) (by decide) (by decide)
      refine va_iast hx hb hK hP hD hS 2 1 rfl rfl (rg_in (n := 9) (rg_mono hp0 (by decide) (by decide))) dX7_heedPair_65 (fun H locs hP hD hS => ?_)
      obtain ⟨f_17, ef_17⟩ : ∃ f : Nat → Int32, f = upd g2 (p0 : Int32).toNatClampNeg x_16 := ⟨_, rfl⟩
      rw [← ef_17] at hP hD
      have hf_17 : rgA (0) (511) f_17 := by rw [ef_17]; exact rgA_upd hg2 (rg_mono hx_16 (by decide) (by decide))
      clear ef_17
      replace hP : va_P (dC, dI) vwCl [(h0, .inr (7, [.ref h1, .ref h2, .ref h3, .ref h4, .ref h5, .ref h6, .int a0, .int a1, .int a2, .int a3, .int a4, .int a5, .int a6, .int a7])), (h2, .inl (cI, 9, .inl g1)), (h3, .inl (cI, 9, .inl f_17))] H := hP
      replace hD : va_D A [(h0, .inr (7, [.ref h1, .ref h2, .ref h3, .ref h4, .ref h5, .ref h6, .int a0, .int a1, .int a2, .int a3, .int a4, .int a5, .int a6, .int a7])), (h2, .inl (cI, 9, .inl g1)), (h3, .inl (cI, 9, .inl f_17))] := hD
      refine lv_aload_n hx hb dX7_heedPair_66 rfl (lv_at hl 0 rfl) ?_
      refine va_get (D := (dC, dI)) (ci := 7) (v := .ref h3) (C := RX7) (T := TX7) (N := 14) hx hb hts hinX7 hown hK hP 0 rfl rfl 2 (by decide) (hts (.fieldLink RX7 18 "MayRings$Ways" "must" "[I") (List.mem_of_getElem? (i := 3) rfl)) (fun _ h9 => h9) rfl dX7_heedPair_67 ?_
      refine lv_iload_n hx hb dX7_heedPair_70 rfl (lv_at hl 2 rfl) ?_
      refine lv_dup2_11 hx hb dX7_heedPair_71 rfl rfl ?_
      refine va_iald hx hb hK hP 2 1 rfl rfl (rg_in (n := 9) (rg_mono hp1 (by decide) (by decide))) dX7_heedPair_72 ?_
      refine lv_topi (fun x_18 ex_18 => ?_)
      have hx_18 : rg (0) (511) x_18 := by rw [ex_18]; exact rg_mono (hf_17 _) (by decide) (by decide)
      refine lv_iconst (v := 1) hx hb dX7_heedPair_73 (by decide) ?_
      refine lv_iload_n hx hb dX7_heedPair_74 rfl (lv_at hl 1 rfl) ?_
      refine lv_ishl hx hb dX7_heedPair_75 ?_
      refine lv_topi (fun x_19 ex_19 => ?_)
      have hx_19 : rg (1) (256) x_19 := by rw [ex_19]; exact rg_mono (rg_shl1 8 (rg_mono hp0 (by decide) (by decide)) (by decide)) (by decide) (by decide)
      refine lv_ior hx hb dX7_heedPair_76 ?_
      refine lv_topi (fun x_20 ex_20 => ?_)
      have hx_20 : rg (0) (511) x_20 := by rw [ex_20]; exact rg_mono (rg_or 9 (rg_mono hx_18 (by decide) (by decide)) (rg_mono hx_19 (by decide) (by decide)) (by decide)) (by decide) (by decide)
      refine va_iast hx hb hK hP hD hS 2 1 rfl rfl (rg_in (n := 9) (rg_mono hp1 (by decide) (by decide))) dX7_heedPair_77 (fun H locs hP hD hS => ?_)
      obtain ⟨f_21, ef_21⟩ : ∃ f : Nat → Int32, f = upd f_17 (p1 : Int32).toNatClampNeg x_20 := ⟨_, rfl⟩
      rw [← ef_21] at hP hD
      have hf_21 : rgA (0) (511) f_21 := by rw [ef_21]; exact rgA_upd hf_17 (rg_mono hx_20 (by decide) (by decide))
      clear ef_21
      replace hP : va_P (dC, dI) vwCl [(h0, .inr (7, [.ref h1, .ref h2, .ref h3, .ref h4, .ref h5, .ref h6, .int a0, .int a1, .int a2, .int a3, .int a4, .int a5, .int a6, .int a7])), (h2, .inl (cI, 9, .inl g1)), (h3, .inl (cI, 9, .inl f_21))] H := hP
      replace hD : va_D A [(h0, .inr (7, [.ref h1, .ref h2, .ref h3, .ref h4, .ref h5, .ref h6, .int a0, .int a1, .int a2, .int a3, .int a4, .int a5, .int a6, .int a7])), (h2, .inl (cI, 9, .inl g1)), (h3, .inl (cI, 9, .inl f_21))] := hD
      refine lv_goto (tgt := 86) hx hb dX7_heedPair_78 (by decide) ?_
      have hP9 := hP.sub (ws' := [(h0, .inr (7, [.ref h1, .ref h2, .ref h3, .ref h4, .ref h5, .ref h6, .int a0, .int a1, .int a2, .int a3, .int a4, .int a5, .int a6, .int a7])), (h2, .inl (cI, 9, .inl g1)), (h3, .inl (cI, 9, .inl f_21))]) [0, 1, 2] rfl
      have hD9 := hD.sub (ws' := [(h0, .inr (7, [.ref h1, .ref h2, .ref h3, .ref h4, .ref h5, .ref h6, .int a0, .int a1, .int a2, .int a3, .int a4, .int a5, .int a6, .int a7])), (h2, .inl (cI, 9, .inl g1)), (h3, .inl (cI, 9, .inl f_21))]) [0, 1, 2] (by decide) rfl
      exact W.vret hx hb hr (fun t ht hW => ⟨⟨(), rfl, trivial, ⟨a4, g1, f_21, (rg_mono ha4 (by decide) (by decide)), hg1, hf_21, by rw [ht]; exact hP9, hD9⟩⟩, hS.F ht⟩) hS.2.2 dX7_heedPair_86
  · skip
    have h_22 : rg (0) (0) p2 := by have ha := hp2; have hb_ := (rg_k (x := 0) (c := 0) (by decide)); simp only [rg, fa_lt, fa_le, fa_eq, (by decide : (0 : Int32).toInt = 0)] at ha hb_ c_1; simp only [rg]; omega
    refine lv_aload_n hx hb dX7_heedPair_4 rfl (lv_at hl 0 rfl) ?_
    refine va_get (D := (dC, dI)) (ci := 7) (v := .ref h2) (C := RX7) (T := TX7) (N := 14) hx hb hts hinX7 hown hK hP 0 rfl rfl 1 (by decide) (hts (.fieldLink RX7 15 "MayRings$Ways" "pairs" "[I") (List.mem_of_getElem? (i := 4) rfl)) (fun _ h9 => h9) rfl dX7_heedPair_5 ?_
    refine lv_iload_n hx hb dX7_heedPair_8 rfl (lv_at hl 1 rfl) ?_
    refine lv_dup2_11 hx hb dX7_heedPair_9 rfl rfl ?_
    refine va_iald hx hb hK hP 1 1 rfl rfl (rg_in (n := 9) (rg_mono hp0 (by decide) (by decide))) dX7_heedPair_10 ?_
    refine lv_topi (fun x_23 ex_23 => ?_)
    have hx_23 : rg (0) (511) x_23 := by rw [ex_23]; exact rg_mono (hg1 _) (by decide) (by decide)
    refine lv_iconst (v := 1) hx hb dX7_heedPair_11 (by decide) ?_
    refine lv_iload_n hx hb dX7_heedPair_12 rfl (lv_at hl 2 rfl) ?_
    refine lv_ishl hx hb dX7_heedPair_13 ?_
    refine lv_topi (fun x_24 ex_24 => ?_)
    have hx_24 : rg (1) (256) x_24 := by rw [ex_24]; exact rg_mono (rg_shl1 8 (rg_mono hp1 (by decide) (by decide)) (by decide)) (by decide) (by decide)
    refine lv_iconst (v := (-1)) hx hb dX7_heedPair_14 (by decide) ?_
    refine lv_ixor hx hb dX7_heedPair_15 ?_
    refine lv_topi (fun x_25 ex_25 => ?_)
    refine lv_iand hx hb dX7_heedPair_16 ?_
    refine lv_topi (fun x_26 ex_26 => ?_)
    have hx_26 : rg (0) (511) x_26 := by rw [ex_26]; exact rg_mono (rg_andl (b := 511) (rg_mono hx_23 (by decide) (by decide))) (by decide) (by decide)
    have kx_26_0 : rg 1 2147483647 x_26 → rg 1 (511) x_23 := fun hq => rg_andP hx_23 (ex_26 ▸ hq)
    refine va_iast hx hb hK hP hD hS 1 1 rfl rfl (rg_in (n := 9) (rg_mono hp0 (by decide) (by decide))) dX7_heedPair_17 (fun H locs hP hD hS => ?_)
    obtain ⟨f_27, ef_27⟩ : ∃ f : Nat → Int32, f = upd g1 (p0 : Int32).toNatClampNeg x_26 := ⟨_, rfl⟩
    rw [← ef_27] at hP hD
    have hf_27 : rgA (0) (511) f_27 := by rw [ef_27]; exact rgA_upd hg1 (rg_mono hx_26 (by decide) (by decide))
    clear ef_27
    replace hP : va_P (dC, dI) vwCl [(h0, .inr (7, [.ref h1, .ref h2, .ref h3, .ref h4, .ref h5, .ref h6, .int a0, .int a1, .int a2, .int a3, .int a4, .int a5, .int a6, .int a7])), (h2, .inl (cI, 9, .inl f_27)), (h3, .inl (cI, 9, .inl g2))] H := hP
    replace hD : va_D A [(h0, .inr (7, [.ref h1, .ref h2, .ref h3, .ref h4, .ref h5, .ref h6, .int a0, .int a1, .int a2, .int a3, .int a4, .int a5, .int a6, .int a7])), (h2, .inl (cI, 9, .inl f_27)), (h3, .inl (cI, 9, .inl g2))] := hD
    refine lv_aload_n hx hb dX7_heedPair_18 rfl (lv_at hl 0 rfl) ?_
    refine va_get (D := (dC, dI)) (ci := 7) (v := .ref h2) (C := RX7) (T := TX7) (N := 14) hx hb hts hinX7 hown hK hP 0 rfl rfl 1 (by decide) (hts (.fieldLink RX7 15 "MayRings$Ways" "pairs" "[I") (List.mem_of_getElem? (i := 4) rfl)) (fun _ h9 => h9) rfl dX7_heedPair_19 ?_
    refine lv_iload_n hx hb dX7_heedPair_22 rfl (lv_at hl 2 rfl) ?_
    refine lv_dup2_11 hx hb dX7_heedPair_23 rfl rfl ?_
    refine va_iald hx hb hK hP 1 1 rfl rfl (rg_in (n := 9) (rg_mono hp1 (by decide) (by decide))) dX7_heedPair_24 ?_
    refine lv_topi (fun x_28 ex_28 => ?_)
    have hx_28 : rg (0) (511) x_28 := by rw [ex_28]; exact rg_mono (hf_27 _) (by decide) (by decide)
    refine lv_iconst (v := 1) hx hb dX7_heedPair_25 (by decide) ?_
    refine lv_iload_n hx hb dX7_heedPair_26 rfl (lv_at hl 1 rfl) ?_
    refine lv_ishl hx hb dX7_heedPair_27 ?_
    refine lv_topi (fun x_29 ex_29 => ?_)
    have hx_29 : rg (1) (256) x_29 := by rw [ex_29]; exact rg_mono (rg_shl1 8 (rg_mono hp0 (by decide) (by decide)) (by decide)) (by decide) (by decide)
    refine lv_iconst (v := (-1)) hx hb dX7_heedPair_28 (by decide) ?_
    refine lv_ixor hx hb dX7_heedPair_29 ?_
    refine lv_topi (fun x_30 ex_30 => ?_)
    refine lv_iand hx hb dX7_heedPair_30 ?_
    refine lv_topi (fun x_31 ex_31 => ?_)
    have hx_31 : rg (0) (511) x_31 := by rw [ex_31]; exact rg_mono (rg_andl (b := 511) (rg_mono hx_28 (by decide) (by decide))) (by decide) (by decide)
    have kx_31_0 : rg 1 2147483647 x_31 → rg 1 (511) x_28 := fun hq => rg_andP hx_28 (ex_31 ▸ hq)
    refine va_iast hx hb hK hP hD hS 1 1 rfl rfl (rg_in (n := 9) (rg_mono hp1 (by decide) (by decide))) dX7_heedPair_31 (fun H locs hP hD hS => ?_)
    obtain ⟨f_32, ef_32⟩ : ∃ f : Nat → Int32, f = upd f_27 (p1 : Int32).toNatClampNeg x_31 := ⟨_, rfl⟩
    rw [← ef_32] at hP hD
    have hf_32 : rgA (0) (511) f_32 := by rw [ef_32]; exact rgA_upd hf_27 (rg_mono hx_31 (by decide) (by decide))
    clear ef_32
    replace hP : va_P (dC, dI) vwCl [(h0, .inr (7, [.ref h1, .ref h2, .ref h3, .ref h4, .ref h5, .ref h6, .int a0, .int a1, .int a2, .int a3, .int a4, .int a5, .int a6, .int a7])), (h2, .inl (cI, 9, .inl f_32)), (h3, .inl (cI, 9, .inl g2))] H := hP
    replace hD : va_D A [(h0, .inr (7, [.ref h1, .ref h2, .ref h3, .ref h4, .ref h5, .ref h6, .int a0, .int a1, .int a2, .int a3, .int a4, .int a5, .int a6, .int a7])), (h2, .inl (cI, 9, .inl f_32)), (h3, .inl (cI, 9, .inl g2))] := hD
    refine lv_goto (tgt := 86) hx hb dX7_heedPair_32 (by decide) ?_
    have hP9 := hP.sub (ws' := [(h0, .inr (7, [.ref h1, .ref h2, .ref h3, .ref h4, .ref h5, .ref h6, .int a0, .int a1, .int a2, .int a3, .int a4, .int a5, .int a6, .int a7])), (h2, .inl (cI, 9, .inl f_32)), (h3, .inl (cI, 9, .inl g2))]) [0, 1, 2] rfl
    have hD9 := hD.sub (ws' := [(h0, .inr (7, [.ref h1, .ref h2, .ref h3, .ref h4, .ref h5, .ref h6, .int a0, .int a1, .int a2, .int a3, .int a4, .int a5, .int a6, .int a7])), (h2, .inl (cI, 9, .inl f_32)), (h3, .inl (cI, 9, .inl g2))]) [0, 1, 2] (by decide) rfl
    exact W.vret hx hb hr (fun t ht hW => ⟨⟨(), rfl, trivial, ⟨a4, f_32, g2, (rg_mono ha4 (by decide) (by decide)), hf_32, hg2, by rw [ht]; exact hP9, hD9⟩⟩, hS.F ht⟩) hS.2.2 dX7_heedPair_86
def v_s_X7_heedPlace : List Cond := Cond.code yX7_heedPlace cX7_heedPlace 5 none :: ([Cond.fieldLink RX7 34 "MayRings$Ways" "size" "I", Cond.fieldLink RX7 9 "MayRings$Ways" "ground" "[I", Cond.fieldLink RX7 30 "MayRings$Ways" "houses" "I", Cond.fieldLink RX7 44 "MayRings$Ways" "never" "Z"] ++ (wsX70 ++ ([])))
theorem k_s_X7_heedPlace : GoodIn lw_tbl v_s_X7_heedPlace := gd_c (List.mem_of_getElem? (i := 1182) (by decide +kernel)) rfl (goodIn_app (gd_c (List.mem_of_getElem? (i := 454) (by decide +kernel)) rfl (gd_c (List.mem_of_getElem? (i := 440) (by decide +kernel)) rfl (gd_c (List.mem_of_getElem? (i := 452) (by decide +kernel)) rfl (gd_c (List.mem_of_getElem? (i := 461) (by decide +kernel)) rfl (gd_nil))))) (goodIn_app kfX7 (gd_nil)))
set_option maxHeartbeats 2000000 in
set_option maxRecDepth 100000 in
theorem c_s_X7_heedPlace (l : Launch) (dC : Nat → ClassId) (dI : Nat → Nat → Nat) (cB cI cJ cZ cP : ClassId) (h0 : Nat) (h1 : Nat) (g0 : Nat → Int32) (hg0 : rgA (0) (511) g0) (h2 : Nat) (h3 : Nat) (h4 : Nat) (h5 : Nat) (h6 : Nat) (a0 : Int32) (ha0 : rg (0) (511) a0) (a1 : Int32) (ha1 : rg (0) (9) a1) (a2 : Int32) (a3 : Int32) (a4 : Int32) (ha4 : rg (0) (1) a4) (a5 : Int32) (a6 : Int32) (a7 : Int32) (p0 : Int32) (hp0 : rg (0) (8) p0) (p1 : Int32) (hp1 : rg (0) (8) p1) (p2 : Int32) (hp2 : rg (0) (1) p2) (sz : Nat) : Met l yX7_heedPlace v_s_X7_heedPlace ({ frames := 0, cells := 0, slots := 0, locals := 0 }) (va_Pc [.ref h0, .int p0, .int p1, .int p2] (fun U => U.heap.size = sz ∧ va_P (dC, dI) vwCl [(h0, .inr (7, [.ref h1, .ref h2, .ref h3, .ref h4, .ref h5, .ref h6, .int a0, .int a1, .int a2, .int a3, .int a4, .int a5, .int a6, .int a7])), (h1, .inl (cI, 9, .inl g0))] U.heap ∧ va_K (dC, dI) vwCl (ty5 cB cI cJ cZ cP) U ∧ va_D (fun _ => True) [(h0, .inr (7, [.ref h1, .ref h2, .ref h3, .ref h4, .ref h5, .ref h6, .int a0, .int a1, .int a2, .int a3, .int a4, .int a5, .int a6, .int a7])), (h1, .inl (cI, 9, .inl g0))])) (va_Qv (fun _ : Unit => True) (fun _ t => ∃ (z0 : Int32) (z1 : Nat → Int32), rg (0) (1) z0 ∧ rgA (0) (511) z1 ∧ va_P (dC, dI) vwCl [(h0, .inr (7, [.ref h1, .ref h2, .ref h3, .ref h4, .ref h5, .ref h6, .int a0, .int a1, .int a2, .int a3, .int z0, .int a5, .int a6, .int a7])), (h1, .inl (cI, 9, .inl z1))] t.heap ∧ va_D (va_A [(h0, .inr (7, [.ref h1, .ref h2, .ref h3, .ref h4, .ref h5, .ref h6, .int a0, .int a1, .int a2, .int a3, .int a4, .int a5, .int a6, .int a7])), (h1, .inl (cI, 9, .inl g0))] sz) [(h0, .inr (7, [.ref h1, .ref h2, .ref h3, .ref h4, .ref h5, .ref h6, .int a0, .int a1, .int a2, .int a3, .int z0, .int a5, .int a6, .int a7])), (h1, .inl (cI, 9, .inl z1))]) (va_A [(h0, .inr (7, [.ref h1, .ref h2, .ref h3, .ref h4, .ref h5, .ref h6, .int a0, .int a1, .int a2, .int a3, .int a4, .int a5, .int a6, .int a7])), (h1, .inl (cI, 9, .inl g0))] sz)) 0 0 (va_A [(h0, .inr (7, [.ref h1, .ref h2, .ref h3, .ref h4, .ref h5, .ref h6, .int a0, .int a1, .int a2, .int a3, .int a4, .int a5, .int a6, .int a7])), (h1, .inl (cI, 9, .inl g0))] sz) := by
  refine Met.ofW (cc := cX7_heedPlace) (maxL := 5) (ret := none) (by decide) rfl ?_
  intro p e s m args below meth c s₁ B hml hv
  obtain ⟨rfl, hsz, hP, hK, hD0⟩ := hv
  have hx := B.exec
  have hb := B.bytes
  have hr := B.returns
  have hts := atoms_spec (ws := v_s_X7_heedPlace) B.pre
  have hown : s.vm.findClass RX7 = some m.cls := findClass_of_methodNamed B.named
  have hlocks := B.notSynchronized
  have hinX7 : ∀ w ∈ wsX70, w ∈ v_s_X7_heedPlace := fun _ h => List.mem_cons_of_mem _ (List.mem_append_right _ (List.mem_append_left _ h))
  subst hsz
  have hD := hD0.self (sz := s.heap.size)
  generalize hAe : va_A [(h0, .inr (7, [.ref h1, .ref h2, .ref h3, .ref h4, .ref h5, .ref h6, .int a0, .int a1, .int a2, .int a3, .int a4, .int a5, .int a6, .int a7])), (h1, .inl (cI, 9, .inl g0))] s.heap.size = A at hD ⊢
  have hA : ∀ q : Nat, s.heap.size ≤ q → A q := fun q h => by rw [← hAe]; exact Or.inr h
  have hP : va_P (dC, dI) vwCl [(h0, .inr (7, [.ref h1, .ref h2, .ref h3, .ref h4, .ref h5, .ref h6, .int a0, .int a1, .int a2, .int a3, .int a4, .int a5, .int a6, .int a7])), (h1, .inl (cI, 9, .inl g0))] s.heap := hP
  have hl := lv_entry ([.ref h0, .int p0, .int p1, .int p2]) (n := 5) (Nat.le_of_ble_eq_true rfl)
  rw [lg_entry_eq]
  generalize (lg_sl ([.ref h0, .int p0, .int p1, .int p2]) ++ List.replicate (5 - (lg_sl ([.ref h0, .int p0, .int p1, .int p2])).length) Slot.unset).toArray = ls at hl ⊢
  have hl : lv_has ls 5 [(0, .ref h0), (1, .int p0), (2, .int p1), (3, .int p2)] := hl
  refine W_gen (A := A) hP (fun H locs hP hS => ?_)
  refine lv_iload_n hx hb dX7_heedPlace_0 rfl (lv_at hl 3 rfl) ?_
  refine lv_if_eq (tgt := 28) hx hb dX7_heedPlace_1 (by decide) (fun c_1 => ?_) (fun c_1 => ?_)
  · skip
    have h_2 : rg (0) (0) p2 := by have ha := hp2; have hb_ := (rg_k (x := 0) (c := 0) (by decide)); simp only [rg, fa_lt, fa_le, fa_eq, (by decide : (0 : Int32).toInt = 0)] at ha hb_ c_1; simp only [rg]; omega
    refine lv_iconst (v := 0) hx hb dX7_heedPlace_28 (by decide) ?_
    refine lv_istore (lv' := [(4, .int 0), (0, .ref h0), (1, .int p0), (2, .int p1), (3, .int p2)]) hx hb dX7_heedPlace_29 hl (by decide) rfl (fun ls hl => ?_)
    refine W_loopM (σ := Int32 × (Nat → Int32)) (fun u H locs ls => va_P (dC, dI) vwCl [(h0, .inr (7, [.ref h1, .ref h2, .ref h3, .ref h4, .ref h5, .ref h6, .int a0, .int a1, .int a2, .int a3, .int a4, .int a5, .int a6, .int a7])), (h1, .inl (cI, 9, .inl u.2))] H ∧ va_D A [(h0, .inr (7, [.ref h1, .ref h2, .ref h3, .ref h4, .ref h5, .ref h6, .int a0, .int a1, .int a2, .int a3, .int a4, .int a5, .int a6, .int a7])), (h1, .inl (cI, 9, .inl u.2))] ∧ va_S A s.heap H locs ∧ lv_has ls 5 [(4, .int u.1), (0, .ref h0), (1, .int p0), (2, .int p1), (3, .int p2)] ∧ rg (0) (9) u.1 ∧ rgA (0) (511) u.2) (fun u => ((9) - u.1.toInt).toNat) 31 [] ?_ (0, g0) H locs ls ⟨hP, hD, hS, hl, (rg_mono (rg_k (x := 0) (c := 0) (by decide)) (by decide) (by decide)), hg0⟩
    rintro ⟨x_143, f_144⟩ H locs ls ⟨hP, hD, hS, hl, hx_143, hf_144⟩ ih_159
    replace hP : va_P (dC, dI) vwCl [(h0, .inr (7, [.ref h1, .ref h2, .ref h3, .ref h4, .ref h5, .ref h6, .int a0, .int a1, .int a2, .int a3, .int a4, .int a5, .int a6, .int a7])), (h1, .inl (cI, 9, .inl f_144))] H := hP
    replace hD : va_D A [(h0, .inr (7, [.ref h1, .ref h2, .ref h3, .ref h4, .ref h5, .ref h6, .int a0, .int a1, .int a2, .int a3, .int a4, .int a5, .int a6, .int a7])), (h1, .inl (cI, 9, .inl f_144))] := hD
    replace hl : lv_has ls 5 [(4, .int x_143), (0, .ref h0), (1, .int p0), (2, .int p1), (3, .int p2)] := hl
    replace hx_143 : rg (0) (9) x_143 := hx_143
    replace hf_144 : rgA (0) (511) f_144 := hf_144
    refine lv_iload hx hb dX7_heedPlace_31 (lv_at hl 0 rfl) ?_
    refine lv_aload_n hx hb dX7_heedPlace_33 rfl (lv_at hl 1 rfl) ?_
    refine va_get (D := (dC, dI)) (ci := 7) (v := .int a1) (C := RX7) (T := TX7) (N := 14) hx hb hts hinX7 hown hK hP 0 rfl rfl 7 (by decide) (hts (.fieldLink RX7 34 "MayRings$Ways" "size" "I") (List.mem_of_getElem? (i := 1) rfl)) (fun _ h9 => h9) rfl dX7_heedPlace_34 ?_
    refine lv_icmp_ge (tgt := 76) hx hb dX7_heedPlace_37 (by decide) (fun c_160 => ?_) (fun c_160 => ?_)
    · skip
      have hP9 := hP.sub (ws' := [(h0, .inr (7, [.ref h1, .ref h2, .ref h3, .ref h4, .ref h5, .ref h6, .int a0, .int a1, .int a2, .int a3, .int a4, .int a5, .int a6, .int a7])), (h1, .inl (cI, 9, .inl f_144))]) [0, 1] rfl
      have hD9 := hD.sub (ws' := [(h0, .inr (7, [.ref h1, .ref h2, .ref h3, .ref h4, .ref h5, .ref h6, .int a0, .int a1, .int a2, .int a3, .int a4, .int a5, .int a6, .int a7])), (h1, .inl (cI, 9, .inl f_144))]) [0, 1] (by decide) rfl
      exact W.vret hx hb hr (fun t ht hW => ⟨⟨(), rfl, trivial, ⟨a4, f_144, (rg_mono ha4 (by decide) (by decide)), hf_144, by rw [ht]; exact hP9, hD9⟩⟩, hS.F ht⟩) hS.2.2 dX7_heedPlace_76
    · skip
      have h_161 : rg (0) (8) x_143 := by have ha := hx_143; have hb_ := ha1; simp only [rg, fa_lt, fa_le, fa_eq] at ha hb_ c_160; simp only [rg]; omega
      have h_162 : rg (1) (9) a1 := by have ha := h_161; have hb_ := ha1; have hc_ := c_160; simp only [rg, fa_lt, fa_le, fa_eq] at ha hb_ hc_; simp only [rg]; omega
      have h_163 : rg (1) (9) a1 := by have ha := hx_143; have hb_ := ha1; simp only [rg, fa_lt, fa_le, fa_eq] at ha hb_ c_160; simp only [rg]; omega
      refine lv_iload hx hb dX7_heedPlace_40 (lv_at hl 0 rfl) ?_
      refine lv_iload_n hx hb dX7_heedPlace_42 rfl (lv_at hl 3 rfl) ?_
      refine lv_icmp_ne (tgt := 50) hx hb dX7_heedPlace_43 (by decide) (fun c_164 => ?_) (fun c_164 => ?_)
      · skip
        refine lv_iconst (v := 0) hx hb dX7_heedPlace_50 (by decide) ?_
        refine lv_iload_n hx hb dX7_heedPlace_51 rfl (lv_at hl 4 rfl) ?_
        refine lv_icmp_eq (tgt := 70) hx hb dX7_heedPlace_52 (by decide) (fun c_165 => ?_) (fun c_165 => ?_)
        · skip
          obtain ⟨x_166, ex_166⟩ : ∃ y : Int32, y = x_143 + Int32.ofInt (1) := ⟨_, rfl⟩
          have hx_166 : rg (1) (9) x_166 := by rw [ex_166]; exact rg_mono (rg_add h_161 (rg_k (x := Int32.ofInt (1)) (c := 1) (by decide)) (by decide) (by decide)) (by decide) (by decide)
          have qx_166 : x_166.toInt = x_143.toInt + (1) := by rw [ex_166]; exact rg_addE h_161 (rg_k (x := Int32.ofInt (1)) (c := 1) (by decide)) (by decide) (by decide) (by decide)
          refine lv_iinc (v := x_166) (lv' := [(4, .int x_166), (0, .ref h0), (1, .int p0), (2, .int p1), (3, .int p2)]) hx hb dX7_heedPlace_70 hl (k := 0) rfl (ex_166.symm) (by decide) rfl (fun ls hl => ?_)
          clear ex_166
          refine lv_goto (tgt := 31) hx hb dX7_heedPlace_73 (by decide) ?_
          exact ih_159 (x_166, f_144) H locs ls ⟨hP.sub (ws' := [(h0, .inr (7, [.ref h1, .ref h2, .ref h3, .ref h4, .ref h5, .ref h6, .int a0, .int a1, .int a2, .int a3, .int a4, .int a5, .int a6, .int a7])), (h1, .inl (cI, 9, .inl f_144))]) [0, 1] rfl, hD.sub (ws' := [(h0, .inr (7, [.ref h1, .ref h2, .ref h3, .ref h4, .ref h5, .ref h6, .int a0, .int a1, .int a2, .int a3, .int a4, .int a5, .int a6, .int a7])), (h1, .inl (cI, 9, .inl f_144))]) [0, 1] (by decide) rfl, hS, lv_sub hl [0, 1, 2, 3, 4] rfl, (rg_mono hx_166 (by decide) (by decide)), hf_144⟩ (by show ((9) - x_166.toInt).toNat < ((9) - x_143.toInt).toNat; have ha := h_161; simp only [rg] at ha; omega)
        · skip
          exfalso; have ha := (rg_k (x := 0) (c := 0) (by decide)); have hb_ := h_2; simp only [rg, fa_lt, fa_le, fa_eq, (by decide : (0 : Int32).toInt = 0)] at ha hb_ c_165; omega
      · skip
        refine lv_iconst (v := 1) hx hb dX7_heedPlace_46 (by decide) ?_
        refine lv_goto (tgt := 51) hx hb dX7_heedPlace_47 (by decide) ?_
        refine lv_iload_n hx hb dX7_heedPlace_51 rfl (lv_at hl 4 rfl) ?_
        refine lv_icmp_eq (tgt := 70) hx hb dX7_heedPlace_52 (by decide) (fun c_167 => ?_) (fun c_167 => ?_)
        · skip
          exfalso; have ha := (rg_k (x := 1) (c := 1) (by decide)); have hb_ := h_2; simp only [rg, fa_lt, fa_le, fa_eq, (by decide : (1 : Int32).toInt = 1)] at ha hb_ c_167; omega
        · skip
          refine lv_aload_n hx hb dX7_heedPlace_55 rfl (lv_at hl 1 rfl) ?_
          refine va_get (D := (dC, dI)) (ci := 7) (v := .ref h1) (C := RX7) (T := TX7) (N := 14) hx hb hts hinX7 hown hK hP 0 rfl rfl 0 (by decide) (hts (.fieldLink RX7 9 "MayRings$Ways" "ground" "[I") (List.mem_of_getElem? (i := 2) rfl)) (fun _ h9 => h9) rfl dX7_heedPlace_56 ?_
          refine lv_iload hx hb dX7_heedPlace_59 (lv_at hl 0 rfl) ?_
          refine lv_dup2_11 hx hb dX7_heedPlace_61 rfl rfl ?_
          refine va_iald hx hb hK hP 1 1 rfl rfl (rg_in (n := 9) (rg_mono h_161 (by decide) (by decide))) dX7_heedPlace_62 ?_
          refine lv_topi (fun x_168 ex_168 => ?_)
          have hx_168 : rg (0) (511) x_168 := by rw [ex_168]; exact rg_mono (hf_144 _) (by decide) (by decide)
          refine lv_iconst (v := 1) hx hb dX7_heedPlace_63 (by decide) ?_
          refine lv_iload_n hx hb dX7_heedPlace_64 rfl (lv_at hl 2 rfl) ?_
          refine lv_ishl hx hb dX7_heedPlace_65 ?_
          refine lv_topi (fun x_169 ex_169 => ?_)
          have hx_169 : rg (1) (256) x_169 := by rw [ex_169]; exact rg_mono (rg_shl1 8 (rg_mono hp0 (by decide) (by decide)) (by decide)) (by decide) (by decide)
          refine lv_iconst (v := (-1)) hx hb dX7_heedPlace_66 (by decide) ?_
          refine lv_ixor hx hb dX7_heedPlace_67 ?_
          refine lv_topi (fun x_170 ex_170 => ?_)
          refine lv_iand hx hb dX7_heedPlace_68 ?_
          refine lv_topi (fun x_171 ex_171 => ?_)
          have hx_171 : rg (0) (511) x_171 := by rw [ex_171]; exact rg_mono (rg_andl (b := 511) (rg_mono hx_168 (by decide) (by decide))) (by decide) (by decide)
          have kx_171_0 : rg 1 2147483647 x_171 → rg 1 (511) x_168 := fun hq => rg_andP hx_168 (ex_171 ▸ hq)
          refine va_iast hx hb hK hP hD hS 1 1 rfl rfl (rg_in (n := 9) (rg_mono h_161 (by decide) (by decide))) dX7_heedPlace_69 (fun H locs hP hD hS => ?_)
          obtain ⟨f_172, ef_172⟩ : ∃ f : Nat → Int32, f = upd f_144 (x_143 : Int32).toNatClampNeg x_171 := ⟨_, rfl⟩
          rw [← ef_172] at hP hD
          have hf_172 : rgA (0) (511) f_172 := by rw [ef_172]; exact rgA_upd hf_144 (rg_mono hx_171 (by decide) (by decide))
          clear ef_172
          replace hP : va_P (dC, dI) vwCl [(h0, .inr (7, [.ref h1, .ref h2, .ref h3, .ref h4, .ref h5, .ref h6, .int a0, .int a1, .int a2, .int a3, .int a4, .int a5, .int a6, .int a7])), (h1, .inl (cI, 9, .inl f_172))] H := hP
          replace hD : va_D A [(h0, .inr (7, [.ref h1, .ref h2, .ref h3, .ref h4, .ref h5, .ref h6, .int a0, .int a1, .int a2, .int a3, .int a4, .int a5, .int a6, .int a7])), (h1, .inl (cI, 9, .inl f_172))] := hD
          obtain ⟨x_173, ex_173⟩ : ∃ y : Int32, y = x_143 + Int32.ofInt (1) := ⟨_, rfl⟩
          have hx_173 : rg (1) (9) x_173 := by rw [ex_173]; exact rg_mono (rg_add h_161 (rg_k (x := Int32.ofInt (1)) (c := 1) (by decide)) (by decide) (by decide)) (by decide) (by decide)
          have qx_173 : x_173.toInt = x_143.toInt + (1) := by rw [ex_173]; exact rg_addE h_161 (rg_k (x := Int32.ofInt (1)) (c := 1) (by decide)) (by decide) (by decide) (by decide)
          refine lv_iinc (v := x_173) (lv' := [(4, .int x_173), (0, .ref h0), (1, .int p0), (2, .int p1), (3, .int p2)]) hx hb dX7_heedPlace_70 hl (k := 0) rfl (ex_173.symm) (by decide) rfl (fun ls hl => ?_)
          clear ex_173
          refine lv_goto (tgt := 31) hx hb dX7_heedPlace_73 (by decide) ?_
          exact ih_159 (x_173, f_172) H locs ls ⟨hP.sub (ws' := [(h0, .inr (7, [.ref h1, .ref h2, .ref h3, .ref h4, .ref h5, .ref h6, .int a0, .int a1, .int a2, .int a3, .int a4, .int a5, .int a6, .int a7])), (h1, .inl (cI, 9, .inl f_172))]) [0, 1] rfl, hD.sub (ws' := [(h0, .inr (7, [.ref h1, .ref h2, .ref h3, .ref h4, .ref h5, .ref h6, .int a0, .int a1, .int a2, .int a3, .int a4, .int a5, .int a6, .int a7])), (h1, .inl (cI, 9, .inl f_172))]) [0, 1] (by decide) rfl, hS, lv_sub hl [0, 1, 2, 3, 4] rfl, (rg_mono hx_173 (by decide) (by decide)), hf_172⟩ (by show ((9) - x_173.toInt).toNat < ((9) - x_143.toInt).toNat; have ha := h_161; simp only [rg] at ha; omega)
  · skip
    have h_174 : rg (1) (1) p2 := by have ha := hp2; have hb_ := (rg_k (x := 0) (c := 0) (by decide)); simp only [rg, fa_lt, fa_le, fa_eq, (by decide : (0 : Int32).toInt = 0)] at ha hb_ c_1; simp only [rg]; omega
    refine lv_aload_n hx hb dX7_heedPlace_4 rfl (lv_at hl 0 rfl) ?_
    refine va_get (D := (dC, dI)) (ci := 7) (v := .int a0) (C := RX7) (T := TX7) (N := 14) hx hb hts hinX7 hown hK hP 0 rfl rfl 6 (by decide) (hts (.fieldLink RX7 30 "MayRings$Ways" "houses" "I") (List.mem_of_getElem? (i := 3) rfl)) (fun _ h9 => h9) rfl dX7_heedPlace_5 ?_
    refine lv_iload_n hx hb dX7_heedPlace_8 rfl (lv_at hl 1 rfl) ?_
    refine lv_ishr hx hb dX7_heedPlace_9 ?_
    refine lv_topi (fun x_175 ex_175 => ?_)
    have hx_175 : rg (0) (511) x_175 := by rw [ex_175]; exact rg_mono (rg_shr (b := 511) (rg_mono ha0 (by decide) (by decide))) (by decide) (by decide)
    have kx_175_0 : rg 1 2147483647 x_175 → rg 1 (511) a0 := fun hq => rg_shrP ha0 (ex_175 ▸ hq)
    refine lv_iconst (v := 1) hx hb dX7_heedPlace_10 (by decide) ?_
    refine lv_iand hx hb dX7_heedPlace_11 ?_
    refine lv_topi (fun x_176 ex_176 => ?_)
    have hx_176 : rg (0) (1) x_176 := by rw [ex_176]; exact rg_mono (rg_andr (b := 1) (rg_mono (rg_k (x := 1) (c := 1) (by decide)) (by decide) (by decide))) (by decide) (by decide)
    have kx_176_0 : rg 1 2147483647 x_176 → rg 1 (511) x_175 := fun hq => rg_andP hx_175 (ex_176 ▸ hq)
    refine lv_if_eq (tgt := 23) hx hb dX7_heedPlace_12 (by decide) (fun c_177 => ?_) (fun c_177 => ?_)
    · skip
      have h_178 : rg (0) (0) x_176 := by have ha := hx_176; have hb_ := (rg_k (x := 0) (c := 0) (by decide)); simp only [rg, fa_lt, fa_le, fa_eq, (by decide : (0 : Int32).toInt = 0)] at ha hb_ c_177; simp only [rg]; omega
      refine lv_aload_n hx hb dX7_heedPlace_23 rfl (lv_at hl 0 rfl) ?_
      refine lv_iconst (v := 1) hx hb dX7_heedPlace_24 (by decide) ?_
      refine va_put (D := (dC, dI)) (ci := 7) (v := .int 1) (ty := .boolean) (C := RX7) (T := TX7) (N := 14) hx hb hts hinX7 tyX7 tyX7_ok nmX7 hown hK hP hD hS 0 rfl rfl 10 (by decide) (hts (.fieldLink RX7 44 "MayRings$Ways" "never" "Z") (List.mem_of_getElem? (i := 4) rfl)) (fun _ h9 => h9) rfl (by decide +kernel) (rfl) (rfl) (Nat.le_of_ble_eq_true rfl) dX7_heedPlace_25 (fun H locs hP hD hS => ?_)
      replace hP : va_P (dC, dI) vwCl [(h0, .inr (7, [.ref h1, .ref h2, .ref h3, .ref h4, .ref h5, .ref h6, .int a0, .int a1, .int a2, .int a3, .int 1, .int a5, .int a6, .int a7])), (h1, .inl (cI, 9, .inl g0))] H := hP
      replace hD : va_D A [(h0, .inr (7, [.ref h1, .ref h2, .ref h3, .ref h4, .ref h5, .ref h6, .int a0, .int a1, .int a2, .int a3, .int 1, .int a5, .int a6, .int a7])), (h1, .inl (cI, 9, .inl g0))] := hD
      refine lv_iconst (v := 0) hx hb dX7_heedPlace_28 (by decide) ?_
      refine lv_istore (lv' := [(4, .int 0), (0, .ref h0), (1, .int p0), (2, .int p1), (3, .int p2)]) hx hb dX7_heedPlace_29 hl (by decide) rfl (fun ls hl => ?_)
      refine W_loopM (σ := (Nat → Int32) × Int32) (fun u H locs ls => va_P (dC, dI) vwCl [(h0, .inr (7, [.ref h1, .ref h2, .ref h3, .ref h4, .ref h5, .ref h6, .int a0, .int a1, .int a2, .int a3, .int 1, .int a5, .int a6, .int a7])), (h1, .inl (cI, 9, .inl u.1))] H ∧ va_D A [(h0, .inr (7, [.ref h1, .ref h2, .ref h3, .ref h4, .ref h5, .ref h6, .int a0, .int a1, .int a2, .int a3, .int 1, .int a5, .int a6, .int a7])), (h1, .inl (cI, 9, .inl u.1))] ∧ va_S A s.heap H locs ∧ lv_has ls 5 [(4, .int u.2), (0, .ref h0), (1, .int p0), (2, .int p1), (3, .int p2)] ∧ rgA (0) (511) u.1 ∧ rg (0) (9) u.2) (fun u => ((9) - u.2.toInt).toNat) 31 [] ?_ (g0, 0) H locs ls ⟨hP, hD, hS, hl, hg0, (rg_mono (rg_k (x := 0) (c := 0) (by decide)) (by decide) (by decide))⟩
      rintro ⟨f_319, x_320⟩ H locs ls ⟨hP, hD, hS, hl, hf_319, hx_320⟩ ih_335
      replace hP : va_P (dC, dI) vwCl [(h0, .inr (7, [.ref h1, .ref h2, .ref h3, .ref h4, .ref h5, .ref h6, .int a0, .int a1, .int a2, .int a3, .int 1, .int a5, .int a6, .int a7])), (h1, .inl (cI, 9, .inl f_319))] H := hP
      replace hD : va_D A [(h0, .inr (7, [.ref h1, .ref h2, .ref h3, .ref h4, .ref h5, .ref h6, .int a0, .int a1, .int a2, .int a3, .int 1, .int a5, .int a6, .int a7])), (h1, .inl (cI, 9, .inl f_319))] := hD
      replace hl : lv_has ls 5 [(4, .int x_320), (0, .ref h0), (1, .int p0), (2, .int p1), (3, .int p2)] := hl
      replace hf_319 : rgA (0) (511) f_319 := hf_319
      replace hx_320 : rg (0) (9) x_320 := hx_320
      refine lv_iload hx hb dX7_heedPlace_31 (lv_at hl 0 rfl) ?_
      refine lv_aload_n hx hb dX7_heedPlace_33 rfl (lv_at hl 1 rfl) ?_
      refine va_get (D := (dC, dI)) (ci := 7) (v := .int a1) (C := RX7) (T := TX7) (N := 14) hx hb hts hinX7 hown hK hP 0 rfl rfl 7 (by decide) (hts (.fieldLink RX7 34 "MayRings$Ways" "size" "I") (List.mem_of_getElem? (i := 1) rfl)) (fun _ h9 => h9) rfl dX7_heedPlace_34 ?_
      refine lv_icmp_ge (tgt := 76) hx hb dX7_heedPlace_37 (by decide) (fun c_336 => ?_) (fun c_336 => ?_)
      · skip
        have hP9 := hP.sub (ws' := [(h0, .inr (7, [.ref h1, .ref h2, .ref h3, .ref h4, .ref h5, .ref h6, .int a0, .int a1, .int a2, .int a3, .int 1, .int a5, .int a6, .int a7])), (h1, .inl (cI, 9, .inl f_319))]) [0, 1] rfl
        have hD9 := hD.sub (ws' := [(h0, .inr (7, [.ref h1, .ref h2, .ref h3, .ref h4, .ref h5, .ref h6, .int a0, .int a1, .int a2, .int a3, .int 1, .int a5, .int a6, .int a7])), (h1, .inl (cI, 9, .inl f_319))]) [0, 1] (by decide) rfl
        exact W.vret hx hb hr (fun t ht hW => ⟨⟨(), rfl, trivial, ⟨1, f_319, (rg_mono (rg_k (x := 1) (c := 1) (by decide)) (by decide) (by decide)), hf_319, by rw [ht]; exact hP9, hD9⟩⟩, hS.F ht⟩) hS.2.2 dX7_heedPlace_76
      · skip
        have h_337 : rg (0) (8) x_320 := by have ha := hx_320; have hb_ := ha1; simp only [rg, fa_lt, fa_le, fa_eq] at ha hb_ c_336; simp only [rg]; omega
        have h_338 : rg (1) (9) a1 := by have ha := h_337; have hb_ := ha1; have hc_ := c_336; simp only [rg, fa_lt, fa_le, fa_eq] at ha hb_ hc_; simp only [rg]; omega
        have h_339 : rg (1) (9) a1 := by have ha := hx_320; have hb_ := ha1; simp only [rg, fa_lt, fa_le, fa_eq] at ha hb_ c_336; simp only [rg]; omega
        refine lv_iload hx hb dX7_heedPlace_40 (lv_at hl 0 rfl) ?_
        refine lv_iload_n hx hb dX7_heedPlace_42 rfl (lv_at hl 3 rfl) ?_
        refine lv_icmp_ne (tgt := 50) hx hb dX7_heedPlace_43 (by decide) (fun c_340 => ?_) (fun c_340 => ?_)
        · skip
          refine lv_iconst (v := 0) hx hb dX7_heedPlace_50 (by decide) ?_
          refine lv_iload_n hx hb dX7_heedPlace_51 rfl (lv_at hl 4 rfl) ?_
          refine lv_icmp_eq (tgt := 70) hx hb dX7_heedPlace_52 (by decide) (fun c_341 => ?_) (fun c_341 => ?_)
          · skip
            exfalso; have ha := (rg_k (x := 0) (c := 0) (by decide)); have hb_ := h_174; simp only [rg, fa_lt, fa_le, fa_eq, (by decide : (0 : Int32).toInt = 0)] at ha hb_ c_341; omega
          · skip
            refine lv_aload_n hx hb dX7_heedPlace_55 rfl (lv_at hl 1 rfl) ?_
            refine va_get (D := (dC, dI)) (ci := 7) (v := .ref h1) (C := RX7) (T := TX7) (N := 14) hx hb hts hinX7 hown hK hP 0 rfl rfl 0 (by decide) (hts (.fieldLink RX7 9 "MayRings$Ways" "ground" "[I") (List.mem_of_getElem? (i := 2) rfl)) (fun _ h9 => h9) rfl dX7_heedPlace_56 ?_
            refine lv_iload hx hb dX7_heedPlace_59 (lv_at hl 0 rfl) ?_
            refine lv_dup2_11 hx hb dX7_heedPlace_61 rfl rfl ?_
            refine va_iald hx hb hK hP 1 1 rfl rfl (rg_in (n := 9) (rg_mono h_337 (by decide) (by decide))) dX7_heedPlace_62 ?_
            refine lv_topi (fun x_342 ex_342 => ?_)
            have hx_342 : rg (0) (511) x_342 := by rw [ex_342]; exact rg_mono (hf_319 _) (by decide) (by decide)
            refine lv_iconst (v := 1) hx hb dX7_heedPlace_63 (by decide) ?_
            refine lv_iload_n hx hb dX7_heedPlace_64 rfl (lv_at hl 2 rfl) ?_
            refine lv_ishl hx hb dX7_heedPlace_65 ?_
            refine lv_topi (fun x_343 ex_343 => ?_)
            have hx_343 : rg (1) (256) x_343 := by rw [ex_343]; exact rg_mono (rg_shl1 8 (rg_mono hp0 (by decide) (by decide)) (by decide)) (by decide) (by decide)
            refine lv_iconst (v := (-1)) hx hb dX7_heedPlace_66 (by decide) ?_
            refine lv_ixor hx hb dX7_heedPlace_67 ?_
            refine lv_topi (fun x_344 ex_344 => ?_)
            refine lv_iand hx hb dX7_heedPlace_68 ?_
            refine lv_topi (fun x_345 ex_345 => ?_)
            have hx_345 : rg (0) (511) x_345 := by rw [ex_345]; exact rg_mono (rg_andl (b := 511) (rg_mono hx_342 (by decide) (by decide))) (by decide) (by decide)
            have kx_345_0 : rg 1 2147483647 x_345 → rg 1 (511) x_342 := fun hq => rg_andP hx_342 (ex_345 ▸ hq)
            refine va_iast hx hb hK hP hD hS 1 1 rfl rfl (rg_in (n := 9) (rg_mono h_337 (by decide) (by decide))) dX7_heedPlace_69 (fun H locs hP hD hS => ?_)
            obtain ⟨f_346, ef_346⟩ : ∃ f : Nat → Int32, f = upd f_319 (x_320 : Int32).toNatClampNeg x_345 := ⟨_, rfl⟩
            rw [← ef_346] at hP hD
            have hf_346 : rgA (0) (511) f_346 := by rw [ef_346]; exact rgA_upd hf_319 (rg_mono hx_345 (by decide) (by decide))
            clear ef_346
            replace hP : va_P (dC, dI) vwCl [(h0, .inr (7, [.ref h1, .ref h2, .ref h3, .ref h4, .ref h5, .ref h6, .int a0, .int a1, .int a2, .int a3, .int 1, .int a5, .int a6, .int a7])), (h1, .inl (cI, 9, .inl f_346))] H := hP
            replace hD : va_D A [(h0, .inr (7, [.ref h1, .ref h2, .ref h3, .ref h4, .ref h5, .ref h6, .int a0, .int a1, .int a2, .int a3, .int 1, .int a5, .int a6, .int a7])), (h1, .inl (cI, 9, .inl f_346))] := hD
            obtain ⟨x_347, ex_347⟩ : ∃ y : Int32, y = x_320 + Int32.ofInt (1) := ⟨_, rfl⟩
            have hx_347 : rg (1) (9) x_347 := by rw [ex_347]; exact rg_mono (rg_add h_337 (rg_k (x := Int32.ofInt (1)) (c := 1) (by decide)) (by decide) (by decide)) (by decide) (by decide)
            have qx_347 : x_347.toInt = x_320.toInt + (1) := by rw [ex_347]; exact rg_addE h_337 (rg_k (x := Int32.ofInt (1)) (c := 1) (by decide)) (by decide) (by decide) (by decide)
            refine lv_iinc (v := x_347) (lv' := [(4, .int x_347), (0, .ref h0), (1, .int p0), (2, .int p1), (3, .int p2)]) hx hb dX7_heedPlace_70 hl (k := 0) rfl (ex_347.symm) (by decide) rfl (fun ls hl => ?_)
            clear ex_347
            refine lv_goto (tgt := 31) hx hb dX7_heedPlace_73 (by decide) ?_
            exact ih_335 (f_346, x_347) H locs ls ⟨hP.sub (ws' := [(h0, .inr (7, [.ref h1, .ref h2, .ref h3, .ref h4, .ref h5, .ref h6, .int a0, .int a1, .int a2, .int a3, .int 1, .int a5, .int a6, .int a7])), (h1, .inl (cI, 9, .inl f_346))]) [0, 1] rfl, hD.sub (ws' := [(h0, .inr (7, [.ref h1, .ref h2, .ref h3, .ref h4, .ref h5, .ref h6, .int a0, .int a1, .int a2, .int a3, .int 1, .int a5, .int a6, .int a7])), (h1, .inl (cI, 9, .inl f_346))]) [0, 1] (by decide) rfl, hS, lv_sub hl [0, 1, 2, 3, 4] rfl, hf_346, (rg_mono hx_347 (by decide) (by decide))⟩ (by show ((9) - x_347.toInt).toNat < ((9) - x_320.toInt).toNat; have ha := h_337; simp only [rg] at ha; omega)
        · skip
          refine lv_iconst (v := 1) hx hb dX7_heedPlace_46 (by decide) ?_
          refine lv_goto (tgt := 51) hx hb dX7_heedPlace_47 (by decide) ?_
          refine lv_iload_n hx hb dX7_heedPlace_51 rfl (lv_at hl 4 rfl) ?_
          refine lv_icmp_eq (tgt := 70) hx hb dX7_heedPlace_52 (by decide) (fun c_348 => ?_) (fun c_348 => ?_)
          · skip
            obtain ⟨x_349, ex_349⟩ : ∃ y : Int32, y = x_320 + Int32.ofInt (1) := ⟨_, rfl⟩
            have hx_349 : rg (1) (9) x_349 := by rw [ex_349]; exact rg_mono (rg_add h_337 (rg_k (x := Int32.ofInt (1)) (c := 1) (by decide)) (by decide) (by decide)) (by decide) (by decide)
            have qx_349 : x_349.toInt = x_320.toInt + (1) := by rw [ex_349]; exact rg_addE h_337 (rg_k (x := Int32.ofInt (1)) (c := 1) (by decide)) (by decide) (by decide) (by decide)
            refine lv_iinc (v := x_349) (lv' := [(4, .int x_349), (0, .ref h0), (1, .int p0), (2, .int p1), (3, .int p2)]) hx hb dX7_heedPlace_70 hl (k := 0) rfl (ex_349.symm) (by decide) rfl (fun ls hl => ?_)
            clear ex_349
            refine lv_goto (tgt := 31) hx hb dX7_heedPlace_73 (by decide) ?_
            exact ih_335 (f_319, x_349) H locs ls ⟨hP.sub (ws' := [(h0, .inr (7, [.ref h1, .ref h2, .ref h3, .ref h4, .ref h5, .ref h6, .int a0, .int a1, .int a2, .int a3, .int 1, .int a5, .int a6, .int a7])), (h1, .inl (cI, 9, .inl f_319))]) [0, 1] rfl, hD.sub (ws' := [(h0, .inr (7, [.ref h1, .ref h2, .ref h3, .ref h4, .ref h5, .ref h6, .int a0, .int a1, .int a2, .int a3, .int 1, .int a5, .int a6, .int a7])), (h1, .inl (cI, 9, .inl f_319))]) [0, 1] (by decide) rfl, hS, lv_sub hl [0, 1, 2, 3, 4] rfl, hf_319, (rg_mono hx_349 (by decide) (by decide))⟩ (by show ((9) - x_349.toInt).toNat < ((9) - x_320.toInt).toNat; have ha := h_337; simp only [rg] at ha; omega)
          · skip
            exfalso; have ha := (rg_k (x := 1) (c := 1) (by decide)); have hb_ := h_174; simp only [rg, fa_lt, fa_le, fa_eq, (by decide : (1 : Int32).toInt = 1)] at ha hb_ c_348; omega
    · skip
      have h_350 : rg (1) (1) x_176 := by have ha := hx_176; have hb_ := (rg_k (x := 0) (c := 0) (by decide)); simp only [rg, fa_lt, fa_le, fa_eq, (by decide : (0 : Int32).toInt = 0)] at ha hb_ c_177; simp only [rg]; omega
      have h_351 : rg (1) (511) x_175 := rg_meet hx_175 (kx_176_0 (rg_mono h_350 (by decide) (by decide))) (by decide) (by decide)
      have h_352 : rg (1) (511) a0 := rg_meet ha0 (kx_175_0 (rg_mono h_351 (by decide) (by decide))) (by decide) (by decide)
      refine lv_iload_n hx hb dX7_heedPlace_15 rfl (lv_at hl 2 rfl) ?_
      refine lv_aload_n hx hb dX7_heedPlace_16 rfl (lv_at hl 0 rfl) ?_
      refine va_get (D := (dC, dI)) (ci := 7) (v := .int a1) (C := RX7) (T := TX7) (N := 14) hx hb hts hinX7 hown hK hP 0 rfl rfl 7 (by decide) (hts (.fieldLink RX7 34 "MayRings$Ways" "size" "I") (List.mem_of_getElem? (i := 1) rfl)) (fun _ h9 => h9) rfl dX7_heedPlace_17 ?_
      refine lv_icmp_lt (tgt := 28) hx hb dX7_heedPlace_20 (by decide) (fun c_353 => ?_) (fun c_353 => ?_)
      · skip
        have h_354 : rg (1) (9) a1 := by have ha := hp1; have hb_ := ha1; simp only [rg, fa_lt, fa_le, fa_eq] at ha hb_ c_353; simp only [rg]; omega
        refine lv_iconst (v := 0) hx hb dX7_heedPlace_28 (by decide) ?_
        refine lv_istore (lv' := [(4, .int 0), (0, .ref h0), (1, .int p0), (2, .int p1), (3, .int p2)]) hx hb dX7_heedPlace_29 hl (by decide) rfl (fun ls hl => ?_)
        refine W_loopM (σ := (Nat → Int32) × Int32) (fun u H locs ls => va_P (dC, dI) vwCl [(h0, .inr (7, [.ref h1, .ref h2, .ref h3, .ref h4, .ref h5, .ref h6, .int a0, .int a1, .int a2, .int a3, .int a4, .int a5, .int a6, .int a7])), (h1, .inl (cI, 9, .inl u.1))] H ∧ va_D A [(h0, .inr (7, [.ref h1, .ref h2, .ref h3, .ref h4, .ref h5, .ref h6, .int a0, .int a1, .int a2, .int a3, .int a4, .int a5, .int a6, .int a7])), (h1, .inl (cI, 9, .inl u.1))] ∧ va_S A s.heap H locs ∧ lv_has ls 5 [(4, .int u.2), (0, .ref h0), (1, .int p0), (2, .int p1), (3, .int p2)] ∧ rgA (0) (511) u.1 ∧ rg (0) (9) u.2) (fun u => ((9) - u.2.toInt).toNat) 31 [] ?_ (g0, 0) H locs ls ⟨hP, hD, hS, hl, hg0, (rg_mono (rg_k (x := 0) (c := 0) (by decide)) (by decide) (by decide))⟩
        rintro ⟨f_510, x_511⟩ H locs ls ⟨hP, hD, hS, hl, hf_510, hx_511⟩ ih_525
        replace hP : va_P (dC, dI) vwCl [(h0, .inr (7, [.ref h1, .ref h2, .ref h3, .ref h4, .ref h5, .ref h6, .int a0, .int a1, .int a2, .int a3, .int a4, .int a5, .int a6, .int a7])), (h1, .inl (cI, 9, .inl f_510))] H := hP
        replace hD : va_D A [(h0, .inr (7, [.ref h1, .ref h2, .ref h3, .ref h4, .ref h5, .ref h6, .int a0, .int a1, .int a2, .int a3, .int a4, .int a5, .int a6, .int a7])), (h1, .inl (cI, 9, .inl f_510))] := hD
        replace hl : lv_has ls 5 [(4, .int x_511), (0, .ref h0), (1, .int p0), (2, .int p1), (3, .int p2)] := hl
        replace hf_510 : rgA (0) (511) f_510 := hf_510
        replace hx_511 : rg (0) (9) x_511 := hx_511
        refine lv_iload hx hb dX7_heedPlace_31 (lv_at hl 0 rfl) ?_
        refine lv_aload_n hx hb dX7_heedPlace_33 rfl (lv_at hl 1 rfl) ?_
        refine va_get (D := (dC, dI)) (ci := 7) (v := .int a1) (C := RX7) (T := TX7) (N := 14) hx hb hts hinX7 hown hK hP 0 rfl rfl 7 (by decide) (hts (.fieldLink RX7 34 "MayRings$Ways" "size" "I") (List.mem_of_getElem? (i := 1) rfl)) (fun _ h9 => h9) rfl dX7_heedPlace_34 ?_
        refine lv_icmp_ge (tgt := 76) hx hb dX7_heedPlace_37 (by decide) (fun c_526 => ?_) (fun c_526 => ?_)
        · skip
          have h_527 : rg (1) (9) x_511 := by have ha := hx_511; have hb_ := h_354; simp only [rg, fa_lt, fa_le, fa_eq] at ha hb_ c_526; simp only [rg]; omega
          have hP9 := hP.sub (ws' := [(h0, .inr (7, [.ref h1, .ref h2, .ref h3, .ref h4, .ref h5, .ref h6, .int a0, .int a1, .int a2, .int a3, .int a4, .int a5, .int a6, .int a7])), (h1, .inl (cI, 9, .inl f_510))]) [0, 1] rfl
          have hD9 := hD.sub (ws' := [(h0, .inr (7, [.ref h1, .ref h2, .ref h3, .ref h4, .ref h5, .ref h6, .int a0, .int a1, .int a2, .int a3, .int a4, .int a5, .int a6, .int a7])), (h1, .inl (cI, 9, .inl f_510))]) [0, 1] (by decide) rfl
          exact W.vret hx hb hr (fun t ht hW => ⟨⟨(), rfl, trivial, ⟨a4, f_510, (rg_mono ha4 (by decide) (by decide)), hf_510, by rw [ht]; exact hP9, hD9⟩⟩, hS.F ht⟩) hS.2.2 dX7_heedPlace_76
        · skip
          have h_528 : rg (0) (8) x_511 := by have ha := hx_511; have hb_ := h_354; simp only [rg, fa_lt, fa_le, fa_eq] at ha hb_ c_526; simp only [rg]; omega
          refine lv_iload hx hb dX7_heedPlace_40 (lv_at hl 0 rfl) ?_
          refine lv_iload_n hx hb dX7_heedPlace_42 rfl (lv_at hl 3 rfl) ?_
          refine lv_icmp_ne (tgt := 50) hx hb dX7_heedPlace_43 (by decide) (fun c_529 => ?_) (fun c_529 => ?_)
          · skip
            refine lv_iconst (v := 0) hx hb dX7_heedPlace_50 (by decide) ?_
            refine lv_iload_n hx hb dX7_heedPlace_51 rfl (lv_at hl 4 rfl) ?_
            refine lv_icmp_eq (tgt := 70) hx hb dX7_heedPlace_52 (by decide) (fun c_530 => ?_) (fun c_530 => ?_)
            · skip
              exfalso; have ha := (rg_k (x := 0) (c := 0) (by decide)); have hb_ := h_174; simp only [rg, fa_lt, fa_le, fa_eq, (by decide : (0 : Int32).toInt = 0)] at ha hb_ c_530; omega
            · skip
              refine lv_aload_n hx hb dX7_heedPlace_55 rfl (lv_at hl 1 rfl) ?_
              refine va_get (D := (dC, dI)) (ci := 7) (v := .ref h1) (C := RX7) (T := TX7) (N := 14) hx hb hts hinX7 hown hK hP 0 rfl rfl 0 (by decide) (hts (.fieldLink RX7 9 "MayRings$Ways" "ground" "[I") (List.mem_of_getElem? (i := 2) rfl)) (fun _ h9 => h9) rfl dX7_heedPlace_56 ?_
              refine lv_iload hx hb dX7_heedPlace_59 (lv_at hl 0 rfl) ?_
              refine lv_dup2_11 hx hb dX7_heedPlace_61 rfl rfl ?_
              refine va_iald hx hb hK hP 1 1 rfl rfl (rg_in (n := 9) (rg_mono h_528 (by decide) (by decide))) dX7_heedPlace_62 ?_
              refine lv_topi (fun x_531 ex_531 => ?_)
              have hx_531 : rg (0) (511) x_531 := by rw [ex_531]; exact rg_mono (hf_510 _) (by decide) (by decide)
              refine lv_iconst (v := 1) hx hb dX7_heedPlace_63 (by decide) ?_
              refine lv_iload_n hx hb dX7_heedPlace_64 rfl (lv_at hl 2 rfl) ?_
              refine lv_ishl hx hb dX7_heedPlace_65 ?_
              refine lv_topi (fun x_532 ex_532 => ?_)
              have hx_532 : rg (1) (256) x_532 := by rw [ex_532]; exact rg_mono (rg_shl1 8 (rg_mono hp0 (by decide) (by decide)) (by decide)) (by decide) (by decide)
              refine lv_iconst (v := (-1)) hx hb dX7_heedPlace_66 (by decide) ?_
              refine lv_ixor hx hb dX7_heedPlace_67 ?_
              refine lv_topi (fun x_533 ex_533 => ?_)
              refine lv_iand hx hb dX7_heedPlace_68 ?_
              refine lv_topi (fun x_534 ex_534 => ?_)
              have hx_534 : rg (0) (511) x_534 := by rw [ex_534]; exact rg_mono (rg_andl (b := 511) (rg_mono hx_531 (by decide) (by decide))) (by decide) (by decide)
              have kx_534_0 : rg 1 2147483647 x_534 → rg 1 (511) x_531 := fun hq => rg_andP hx_531 (ex_534 ▸ hq)
              refine va_iast hx hb hK hP hD hS 1 1 rfl rfl (rg_in (n := 9) (rg_mono h_528 (by decide) (by decide))) dX7_heedPlace_69 (fun H locs hP hD hS => ?_)
              obtain ⟨f_535, ef_535⟩ : ∃ f : Nat → Int32, f = upd f_510 (x_511 : Int32).toNatClampNeg x_534 := ⟨_, rfl⟩
              rw [← ef_535] at hP hD
              have hf_535 : rgA (0) (511) f_535 := by rw [ef_535]; exact rgA_upd hf_510 (rg_mono hx_534 (by decide) (by decide))
              clear ef_535
              replace hP : va_P (dC, dI) vwCl [(h0, .inr (7, [.ref h1, .ref h2, .ref h3, .ref h4, .ref h5, .ref h6, .int a0, .int a1, .int a2, .int a3, .int a4, .int a5, .int a6, .int a7])), (h1, .inl (cI, 9, .inl f_535))] H := hP
              replace hD : va_D A [(h0, .inr (7, [.ref h1, .ref h2, .ref h3, .ref h4, .ref h5, .ref h6, .int a0, .int a1, .int a2, .int a3, .int a4, .int a5, .int a6, .int a7])), (h1, .inl (cI, 9, .inl f_535))] := hD
              obtain ⟨x_536, ex_536⟩ : ∃ y : Int32, y = x_511 + Int32.ofInt (1) := ⟨_, rfl⟩
              have hx_536 : rg (1) (9) x_536 := by rw [ex_536]; exact rg_mono (rg_add h_528 (rg_k (x := Int32.ofInt (1)) (c := 1) (by decide)) (by decide) (by decide)) (by decide) (by decide)
              have qx_536 : x_536.toInt = x_511.toInt + (1) := by rw [ex_536]; exact rg_addE h_528 (rg_k (x := Int32.ofInt (1)) (c := 1) (by decide)) (by decide) (by decide) (by decide)
              refine lv_iinc (v := x_536) (lv' := [(4, .int x_536), (0, .ref h0), (1, .int p0), (2, .int p1), (3, .int p2)]) hx hb dX7_heedPlace_70 hl (k := 0) rfl (ex_536.symm) (by decide) rfl (fun ls hl => ?_)
              clear ex_536
              refine lv_goto (tgt := 31) hx hb dX7_heedPlace_73 (by decide) ?_
              exact ih_525 (f_535, x_536) H locs ls ⟨hP.sub (ws' := [(h0, .inr (7, [.ref h1, .ref h2, .ref h3, .ref h4, .ref h5, .ref h6, .int a0, .int a1, .int a2, .int a3, .int a4, .int a5, .int a6, .int a7])), (h1, .inl (cI, 9, .inl f_535))]) [0, 1] rfl, hD.sub (ws' := [(h0, .inr (7, [.ref h1, .ref h2, .ref h3, .ref h4, .ref h5, .ref h6, .int a0, .int a1, .int a2, .int a3, .int a4, .int a5, .int a6, .int a7])), (h1, .inl (cI, 9, .inl f_535))]) [0, 1] (by decide) rfl, hS, lv_sub hl [0, 1, 2, 3, 4] rfl, hf_535, (rg_mono hx_536 (by decide) (by decide))⟩ (by show ((9) - x_536.toInt).toNat < ((9) - x_511.toInt).toNat; have ha := h_528; simp only [rg] at ha; omega)
          · skip
            refine lv_iconst (v := 1) hx hb dX7_heedPlace_46 (by decide) ?_
            refine lv_goto (tgt := 51) hx hb dX7_heedPlace_47 (by decide) ?_
            refine lv_iload_n hx hb dX7_heedPlace_51 rfl (lv_at hl 4 rfl) ?_
            refine lv_icmp_eq (tgt := 70) hx hb dX7_heedPlace_52 (by decide) (fun c_537 => ?_) (fun c_537 => ?_)
            · skip
              obtain ⟨x_538, ex_538⟩ : ∃ y : Int32, y = x_511 + Int32.ofInt (1) := ⟨_, rfl⟩
              have hx_538 : rg (1) (9) x_538 := by rw [ex_538]; exact rg_mono (rg_add h_528 (rg_k (x := Int32.ofInt (1)) (c := 1) (by decide)) (by decide) (by decide)) (by decide) (by decide)
              have qx_538 : x_538.toInt = x_511.toInt + (1) := by rw [ex_538]; exact rg_addE h_528 (rg_k (x := Int32.ofInt (1)) (c := 1) (by decide)) (by decide) (by decide) (by decide)
              refine lv_iinc (v := x_538) (lv' := [(4, .int x_538), (0, .ref h0), (1, .int p0), (2, .int p1), (3, .int p2)]) hx hb dX7_heedPlace_70 hl (k := 0) rfl (ex_538.symm) (by decide) rfl (fun ls hl => ?_)
              clear ex_538
              refine lv_goto (tgt := 31) hx hb dX7_heedPlace_73 (by decide) ?_
              exact ih_525 (f_510, x_538) H locs ls ⟨hP.sub (ws' := [(h0, .inr (7, [.ref h1, .ref h2, .ref h3, .ref h4, .ref h5, .ref h6, .int a0, .int a1, .int a2, .int a3, .int a4, .int a5, .int a6, .int a7])), (h1, .inl (cI, 9, .inl f_510))]) [0, 1] rfl, hD.sub (ws' := [(h0, .inr (7, [.ref h1, .ref h2, .ref h3, .ref h4, .ref h5, .ref h6, .int a0, .int a1, .int a2, .int a3, .int a4, .int a5, .int a6, .int a7])), (h1, .inl (cI, 9, .inl f_510))]) [0, 1] (by decide) rfl, hS, lv_sub hl [0, 1, 2, 3, 4] rfl, hf_510, (rg_mono hx_538 (by decide) (by decide))⟩ (by show ((9) - x_538.toInt).toNat < ((9) - x_511.toInt).toNat; have ha := h_528; simp only [rg] at ha; omega)
            · skip
              exfalso; have ha := (rg_k (x := 1) (c := 1) (by decide)); have hb_ := h_174; simp only [rg, fa_lt, fa_le, fa_eq, (by decide : (1 : Int32).toInt = 1)] at ha hb_ c_537; omega
      · skip
        have h_539 : rg (0) (8) a1 := by have ha := hp1; have hb_ := ha1; simp only [rg, fa_lt, fa_le, fa_eq] at ha hb_ c_353; simp only [rg]; omega
        refine lv_aload_n hx hb dX7_heedPlace_23 rfl (lv_at hl 0 rfl) ?_
        refine lv_iconst (v := 1) hx hb dX7_heedPlace_24 (by decide) ?_
        refine va_put (D := (dC, dI)) (ci := 7) (v := .int 1) (ty := .boolean) (C := RX7) (T := TX7) (N := 14) hx hb hts hinX7 tyX7 tyX7_ok nmX7 hown hK hP hD hS 0 rfl rfl 10 (by decide) (hts (.fieldLink RX7 44 "MayRings$Ways" "never" "Z") (List.mem_of_getElem? (i := 4) rfl)) (fun _ h9 => h9) rfl (by decide +kernel) (rfl) (rfl) (Nat.le_of_ble_eq_true rfl) dX7_heedPlace_25 (fun H locs hP hD hS => ?_)
        replace hP : va_P (dC, dI) vwCl [(h0, .inr (7, [.ref h1, .ref h2, .ref h3, .ref h4, .ref h5, .ref h6, .int a0, .int a1, .int a2, .int a3, .int 1, .int a5, .int a6, .int a7])), (h1, .inl (cI, 9, .inl g0))] H := hP
        replace hD : va_D A [(h0, .inr (7, [.ref h1, .ref h2, .ref h3, .ref h4, .ref h5, .ref h6, .int a0, .int a1, .int a2, .int a3, .int 1, .int a5, .int a6, .int a7])), (h1, .inl (cI, 9, .inl g0))] := hD
        refine lv_iconst (v := 0) hx hb dX7_heedPlace_28 (by decide) ?_
        refine lv_istore (lv' := [(4, .int 0), (0, .ref h0), (1, .int p0), (2, .int p1), (3, .int p2)]) hx hb dX7_heedPlace_29 hl (by decide) rfl (fun ls hl => ?_)
        refine W_loopM (σ := (Nat → Int32) × Int32) (fun u H locs ls => va_P (dC, dI) vwCl [(h0, .inr (7, [.ref h1, .ref h2, .ref h3, .ref h4, .ref h5, .ref h6, .int a0, .int a1, .int a2, .int a3, .int 1, .int a5, .int a6, .int a7])), (h1, .inl (cI, 9, .inl u.1))] H ∧ va_D A [(h0, .inr (7, [.ref h1, .ref h2, .ref h3, .ref h4, .ref h5, .ref h6, .int a0, .int a1, .int a2, .int a3, .int 1, .int a5, .int a6, .int a7])), (h1, .inl (cI, 9, .inl u.1))] ∧ va_S A s.heap H locs ∧ lv_has ls 5 [(4, .int u.2), (0, .ref h0), (1, .int p0), (2, .int p1), (3, .int p2)] ∧ rgA (0) (511) u.1 ∧ rg (0) (8) u.2) (fun u => ((8) - u.2.toInt).toNat) 31 [] ?_ (g0, 0) H locs ls ⟨hP, hD, hS, hl, hg0, (rg_mono (rg_k (x := 0) (c := 0) (by decide)) (by decide) (by decide))⟩
        rintro ⟨f_725, x_726⟩ H locs ls ⟨hP, hD, hS, hl, hf_725, hx_726⟩ ih_754
        replace hP : va_P (dC, dI) vwCl [(h0, .inr (7, [.ref h1, .ref h2, .ref h3, .ref h4, .ref h5, .ref h6, .int a0, .int a1, .int a2, .int a3, .int 1, .int a5, .int a6, .int a7])), (h1, .inl (cI, 9, .inl f_725))] H := hP
        replace hD : va_D A [(h0, .inr (7, [.ref h1, .ref h2, .ref h3, .ref h4, .ref h5, .ref h6, .int a0, .int a1, .int a2, .int a3, .int 1, .int a5, .int a6, .int a7])), (h1, .inl (cI, 9, .inl f_725))] := hD
        replace hl : lv_has ls 5 [(4, .int x_726), (0, .ref h0), (1, .int p0), (2, .int p1), (3, .int p2)] := hl
        replace hf_725 : rgA (0) (511) f_725 := hf_725
        replace hx_726 : rg (0) (8) x_726 := hx_726
        refine lv_iload hx hb dX7_heedPlace_31 (lv_at hl 0 rfl) ?_
        refine lv_aload_n hx hb dX7_heedPlace_33 rfl (lv_at hl 1 rfl) ?_
        refine va_get (D := (dC, dI)) (ci := 7) (v := .int a1) (C := RX7) (T := TX7) (N := 14) hx hb hts hinX7 hown hK hP 0 rfl rfl 7 (by decide) (hts (.fieldLink RX7 34 "MayRings$Ways" "size" "I") (List.mem_of_getElem? (i := 1) rfl)) (fun _ h9 => h9) rfl dX7_heedPlace_34 ?_
        refine lv_icmp_ge (tgt := 76) hx hb dX7_heedPlace_37 (by decide) (fun c_755 => ?_) (fun c_755 => ?_)
        · skip
          have hP9 := hP.sub (ws' := [(h0, .inr (7, [.ref h1, .ref h2, .ref h3, .ref h4, .ref h5, .ref h6, .int a0, .int a1, .int a2, .int a3, .int 1, .int a5, .int a6, .int a7])), (h1, .inl (cI, 9, .inl f_725))]) [0, 1] rfl
          have hD9 := hD.sub (ws' := [(h0, .inr (7, [.ref h1, .ref h2, .ref h3, .ref h4, .ref h5, .ref h6, .int a0, .int a1, .int a2, .int a3, .int 1, .int a5, .int a6, .int a7])), (h1, .inl (cI, 9, .inl f_725))]) [0, 1] (by decide) rfl
          exact W.vret hx hb hr (fun t ht hW => ⟨⟨(), rfl, trivial, ⟨1, f_725, (rg_mono (rg_k (x := 1) (c := 1) (by decide)) (by decide) (by decide)), hf_725, by rw [ht]; exact hP9, hD9⟩⟩, hS.F ht⟩) hS.2.2 dX7_heedPlace_76
        · skip
          have h_756 : rg (0) (7) x_726 := by have ha := hx_726; have hb_ := h_539; simp only [rg, fa_lt, fa_le, fa_eq] at ha hb_ c_755; simp only [rg]; omega
          have h_757 : rg (1) (8) a1 := by have ha := h_756; have hb_ := h_539; have hc_ := c_755; simp only [rg, fa_lt, fa_le, fa_eq] at ha hb_ hc_; simp only [rg]; omega
          have h_758 : rg (1) (8) p1 := by have ha := hp1; have hb_ := h_757; have hc_ := c_353; simp only [rg, fa_lt, fa_le, fa_eq] at ha hb_ hc_; simp only [rg]; omega
          have h_759 : rg (1) (8) a1 := by have ha := hx_726; have hb_ := h_539; simp only [rg, fa_lt, fa_le, fa_eq] at ha hb_ c_755; simp only [rg]; omega
          refine lv_iload hx hb dX7_heedPlace_40 (lv_at hl 0 rfl) ?_
          refine lv_iload_n hx hb dX7_heedPlace_42 rfl (lv_at hl 3 rfl) ?_
          refine lv_icmp_ne (tgt := 50) hx hb dX7_heedPlace_43 (by decide) (fun c_760 => ?_) (fun c_760 => ?_)
          · skip
            refine lv_iconst (v := 0) hx hb dX7_heedPlace_50 (by decide) ?_
            refine lv_iload_n hx hb dX7_heedPlace_51 rfl (lv_at hl 4 rfl) ?_
            refine lv_icmp_eq (tgt := 70) hx hb dX7_heedPlace_52 (by decide) (fun c_761 => ?_) (fun c_761 => ?_)
            · skip
              exfalso; have ha := (rg_k (x := 0) (c := 0) (by decide)); have hb_ := h_174; simp only [rg, fa_lt, fa_le, fa_eq, (by decide : (0 : Int32).toInt = 0)] at ha hb_ c_761; omega
            · skip
              refine lv_aload_n hx hb dX7_heedPlace_55 rfl (lv_at hl 1 rfl) ?_
              refine va_get (D := (dC, dI)) (ci := 7) (v := .ref h1) (C := RX7) (T := TX7) (N := 14) hx hb hts hinX7 hown hK hP 0 rfl rfl 0 (by decide) (hts (.fieldLink RX7 9 "MayRings$Ways" "ground" "[I") (List.mem_of_getElem? (i := 2) rfl)) (fun _ h9 => h9) rfl dX7_heedPlace_56 ?_
              refine lv_iload hx hb dX7_heedPlace_59 (lv_at hl 0 rfl) ?_
              refine lv_dup2_11 hx hb dX7_heedPlace_61 rfl rfl ?_
              refine va_iald hx hb hK hP 1 1 rfl rfl (rg_in (n := 9) (rg_mono h_756 (by decide) (by decide))) dX7_heedPlace_62 ?_
              refine lv_topi (fun x_762 ex_762 => ?_)
              have hx_762 : rg (0) (511) x_762 := by rw [ex_762]; exact rg_mono (hf_725 _) (by decide) (by decide)
              refine lv_iconst (v := 1) hx hb dX7_heedPlace_63 (by decide) ?_
              refine lv_iload_n hx hb dX7_heedPlace_64 rfl (lv_at hl 2 rfl) ?_
              refine lv_ishl hx hb dX7_heedPlace_65 ?_
              refine lv_topi (fun x_763 ex_763 => ?_)
              have hx_763 : rg (1) (256) x_763 := by rw [ex_763]; exact rg_mono (rg_shl1 8 (rg_mono hp0 (by decide) (by decide)) (by decide)) (by decide) (by decide)
              refine lv_iconst (v := (-1)) hx hb dX7_heedPlace_66 (by decide) ?_
              refine lv_ixor hx hb dX7_heedPlace_67 ?_
              refine lv_topi (fun x_764 ex_764 => ?_)
              refine lv_iand hx hb dX7_heedPlace_68 ?_
              refine lv_topi (fun x_765 ex_765 => ?_)
              have hx_765 : rg (0) (511) x_765 := by rw [ex_765]; exact rg_mono (rg_andl (b := 511) (rg_mono hx_762 (by decide) (by decide))) (by decide) (by decide)
              have kx_765_0 : rg 1 2147483647 x_765 → rg 1 (511) x_762 := fun hq => rg_andP hx_762 (ex_765 ▸ hq)
              refine va_iast hx hb hK hP hD hS 1 1 rfl rfl (rg_in (n := 9) (rg_mono h_756 (by decide) (by decide))) dX7_heedPlace_69 (fun H locs hP hD hS => ?_)
              obtain ⟨f_766, ef_766⟩ : ∃ f : Nat → Int32, f = upd f_725 (x_726 : Int32).toNatClampNeg x_765 := ⟨_, rfl⟩
              rw [← ef_766] at hP hD
              have hf_766 : rgA (0) (511) f_766 := by rw [ef_766]; exact rgA_upd hf_725 (rg_mono hx_765 (by decide) (by decide))
              clear ef_766
              replace hP : va_P (dC, dI) vwCl [(h0, .inr (7, [.ref h1, .ref h2, .ref h3, .ref h4, .ref h5, .ref h6, .int a0, .int a1, .int a2, .int a3, .int 1, .int a5, .int a6, .int a7])), (h1, .inl (cI, 9, .inl f_766))] H := hP
              replace hD : va_D A [(h0, .inr (7, [.ref h1, .ref h2, .ref h3, .ref h4, .ref h5, .ref h6, .int a0, .int a1, .int a2, .int a3, .int 1, .int a5, .int a6, .int a7])), (h1, .inl (cI, 9, .inl f_766))] := hD
              obtain ⟨x_767, ex_767⟩ : ∃ y : Int32, y = x_726 + Int32.ofInt (1) := ⟨_, rfl⟩
              have hx_767 : rg (1) (8) x_767 := by rw [ex_767]; exact rg_mono (rg_add h_756 (rg_k (x := Int32.ofInt (1)) (c := 1) (by decide)) (by decide) (by decide)) (by decide) (by decide)
              have qx_767 : x_767.toInt = x_726.toInt + (1) := by rw [ex_767]; exact rg_addE h_756 (rg_k (x := Int32.ofInt (1)) (c := 1) (by decide)) (by decide) (by decide) (by decide)
              refine lv_iinc (v := x_767) (lv' := [(4, .int x_767), (0, .ref h0), (1, .int p0), (2, .int p1), (3, .int p2)]) hx hb dX7_heedPlace_70 hl (k := 0) rfl (ex_767.symm) (by decide) rfl (fun ls hl => ?_)
              clear ex_767
              refine lv_goto (tgt := 31) hx hb dX7_heedPlace_73 (by decide) ?_
              exact ih_754 (f_766, x_767) H locs ls ⟨hP.sub (ws' := [(h0, .inr (7, [.ref h1, .ref h2, .ref h3, .ref h4, .ref h5, .ref h6, .int a0, .int a1, .int a2, .int a3, .int 1, .int a5, .int a6, .int a7])), (h1, .inl (cI, 9, .inl f_766))]) [0, 1] rfl, hD.sub (ws' := [(h0, .inr (7, [.ref h1, .ref h2, .ref h3, .ref h4, .ref h5, .ref h6, .int a0, .int a1, .int a2, .int a3, .int 1, .int a5, .int a6, .int a7])), (h1, .inl (cI, 9, .inl f_766))]) [0, 1] (by decide) rfl, hS, lv_sub hl [0, 1, 2, 3, 4] rfl, hf_766, (rg_mono hx_767 (by decide) (by decide))⟩ (by show ((8) - x_767.toInt).toNat < ((8) - x_726.toInt).toNat; have ha := h_756; simp only [rg] at ha; omega)
          · skip
            have h_768 : rg (1) (7) x_726 := by have ha := h_756; have hb_ := h_758; simp only [rg, fa_lt, fa_le, fa_eq] at ha hb_ c_760; simp only [rg]; omega
            have h_769 : rg (2) (8) a1 := by have ha := h_768; have hb_ := h_759; have hc_ := c_755; simp only [rg, fa_lt, fa_le, fa_eq] at ha hb_ hc_; simp only [rg]; omega
            have h_770 : rg (2) (8) p1 := by have ha := h_758; have hb_ := h_769; have hc_ := c_353; simp only [rg, fa_lt, fa_le, fa_eq] at ha hb_ hc_; simp only [rg]; omega
            have h_771 : rg (2) (7) x_726 := by have ha := h_768; have hb_ := h_770; have hc_ := c_760; simp only [rg, fa_lt, fa_le, fa_eq] at ha hb_ hc_; simp only [rg]; omega
            have h_772 : rg (3) (8) a1 := by have ha := h_771; have hb_ := h_769; have hc_ := c_755; simp only [rg, fa_lt, fa_le, fa_eq] at ha hb_ hc_; simp only [rg]; omega
            have h_773 : rg (2) (7) p1 := by have ha := h_771; have hb_ := h_770; have hc_ := c_760; simp only [rg, fa_lt, fa_le, fa_eq] at ha hb_ hc_; simp only [rg]; omega
            have h_774 : rg (1) (7) p1 := by have ha := h_756; have hb_ := h_758; simp only [rg, fa_lt, fa_le, fa_eq] at ha hb_ c_760; simp only [rg]; omega
            have h_775 : rg (3) (7) p1 := by have ha := h_774; have hb_ := h_772; have hc_ := c_353; simp only [rg, fa_lt, fa_le, fa_eq] at ha hb_ hc_; simp only [rg]; omega
            have h_776 : rg (3) (7) a1 := by have ha := h_775; have hb_ := h_772; have hc_ := c_353; simp only [rg, fa_lt, fa_le, fa_eq] at ha hb_ hc_; simp only [rg]; omega
            have h_777 : rg (2) (6) x_726 := by have ha := h_771; have hb_ := h_776; have hc_ := c_755; simp only [rg, fa_lt, fa_le, fa_eq] at ha hb_ hc_; simp only [rg]; omega
            have h_778 : rg (3) (6) x_726 := by have ha := h_777; have hb_ := h_775; have hc_ := c_760; simp only [rg, fa_lt, fa_le, fa_eq] at ha hb_ hc_; simp only [rg]; omega
            have h_779 : rg (3) (6) p1 := by have ha := h_777; have hb_ := h_775; have hc_ := c_760; simp only [rg, fa_lt, fa_le, fa_eq] at ha hb_ hc_; simp only [rg]; omega
            refine lv_iconst (v := 1) hx hb dX7_heedPlace_46 (by decide) ?_
            refine lv_goto (tgt := 51) hx hb dX7_heedPlace_47 (by decide) ?_
            refine lv_iload_n hx hb dX7_heedPlace_51 rfl (lv_at hl 4 rfl) ?_
            refine lv_icmp_eq (tgt := 70) hx hb dX7_heedPlace_52 (by decide) (fun c_780 => ?_) (fun c_780 => ?_)
            · skip
              obtain ⟨x_781, ex_781⟩ : ∃ y : Int32, y = x_726 + Int32.ofInt (1) := ⟨_, rfl⟩
              have hx_781 : rg (4) (7) x_781 := by rw [ex_781]; exact rg_mono (rg_add h_778 (rg_k (x := Int32.ofInt (1)) (c := 1) (by decide)) (by decide) (by decide)) (by decide) (by decide)
              have qx_781 : x_781.toInt = x_726.toInt + (1) := by rw [ex_781]; exact rg_addE h_778 (rg_k (x := Int32.ofInt (1)) (c := 1) (by decide)) (by decide) (by decide) (by decide)
              refine lv_iinc (v := x_781) (lv' := [(4, .int x_781), (0, .ref h0), (1, .int p0), (2, .int p1), (3, .int p2)]) hx hb dX7_heedPlace_70 hl (k := 0) rfl (ex_781.symm) (by decide) rfl (fun ls hl => ?_)
              clear ex_781
              refine lv_goto (tgt := 31) hx hb dX7_heedPlace_73 (by decide) ?_
              exact ih_754 (f_725, x_781) H locs ls ⟨hP.sub (ws' := [(h0, .inr (7, [.ref h1, .ref h2, .ref h3, .ref h4, .ref h5, .ref h6, .int a0, .int a1, .int a2, .int a3, .int 1, .int a5, .int a6, .int a7])), (h1, .inl (cI, 9, .inl f_725))]) [0, 1] rfl, hD.sub (ws' := [(h0, .inr (7, [.ref h1, .ref h2, .ref h3, .ref h4, .ref h5, .ref h6, .int a0, .int a1, .int a2, .int a3, .int 1, .int a5, .int a6, .int a7])), (h1, .inl (cI, 9, .inl f_725))]) [0, 1] (by decide) rfl, hS, lv_sub hl [0, 1, 2, 3, 4] rfl, hf_725, (rg_mono hx_781 (by decide) (by decide))⟩ (by show ((8) - x_781.toInt).toNat < ((8) - x_726.toInt).toNat; have ha := h_778; simp only [rg] at ha; omega)
            · skip
              exfalso; have ha := (rg_k (x := 1) (c := 1) (by decide)); have hb_ := h_174; simp only [rg, fa_lt, fa_le, fa_eq, (by decide : (1 : Int32).toInt = 1)] at ha hb_ c_780; omega
def v_s_X2_ask : List Cond := Cond.code yX2_ask cX2_ask 5 none :: ([Cond.fieldLink RX2 31 "MayRings$Letters" "count" "I", Cond.fieldLink RX2 25 "MayRings$Letters" "toldAt" "[I", Cond.fieldLink RX2 28 "MayRings$Letters" "untoldAt" "[I", Cond.fieldLink RX2 18 "MayRings$Letters" "ofPlace" "[Z", Cond.fieldLink RX2 11 "MayRings$Letters" "house" "[I", Cond.fieldLink RX2 15 "MayRings$Letters" "where" "[I", Cond.fieldLink RX2 22 "MayRings$Letters" "isSo" "[Z", Cond.methodLink RX2 44 yX7_heedPair, Cond.instanceMethod yX7_heedPair, Cond.selects RX7 yX7_heedPair yX7_heedPair, Cond.initialized RX7, Cond.methodLink RX2 38 yX7_heedPlace, Cond.instanceMethod yX7_heedPlace, Cond.selects RX7 yX7_heedPlace yX7_heedPlace] ++ (wsX20 ++ (v_s_X7_heedPair ++ (v_s_X7_heedPlace ++ ([])))))
theorem k_s_X2_ask : GoodIn lw_tbl v_s_X2_ask := gd_c (List.mem_of_getElem? (i := 1178) (by decide +kernel)) rfl (goodIn_app (gd_c (List.mem_of_getElem? (i := 410) (by decide +kernel)) rfl (gd_c (List.mem_of_getElem? (i := 408) (by decide +kernel)) rfl (gd_c (List.mem_of_getElem? (i := 409) (by decide +kernel)) rfl (gd_c (List.mem_of_getElem? (i := 406) (by decide +kernel)) rfl (gd_c (List.mem_of_getElem? (i := 404) (by decide +kernel)) rfl (gd_c (List.mem_of_getElem? (i := 405) (by decide +kernel)) rfl (gd_c (List.mem_of_getElem? (i := 407) (by decide +kernel)) rfl (gd_c (List.mem_of_getElem? (i := 1183) (by decide +kernel)) rfl (gd_c (List.mem_of_getElem? (i := 1184) (by decide +kernel)) rfl (gd_c (List.mem_of_getElem? (i := 1185) (by decide +kernel)) rfl (gd_c (List.mem_of_getElem? (i := 142) (by decide +kernel)) rfl (gd_c (List.mem_of_getElem? (i := 1179) (by decide +kernel)) rfl (gd_c (List.mem_of_getElem? (i := 1180) (by decide +kernel)) rfl (gd_c (List.mem_of_getElem? (i := 1181) (by decide +kernel)) rfl (gd_nil))))))))))))))) (goodIn_app kfX2 (goodIn_app k_s_X7_heedPair (goodIn_app k_s_X7_heedPlace (gd_nil)))))
set_option maxHeartbeats 2000000 in
set_option maxRecDepth 100000 in
theorem c_s_X2_ask (l : Launch) (dC : Nat → ClassId) (dI : Nat → Nat → Nat) (cB cI cJ cZ cP : ClassId) (h0 : Nat) (h1 : Nat) (g0 : Nat → Int32) (hg0 : rgA (0) (8) g0) (h2 : Nat) (g1 : Nat → Int32) (hg1 : rgA (0) (8) g1) (h3 : Nat) (g2 : Nat → Int32) (hg2 : rgA (0) (1) g2) (h4 : Nat) (g3 : Nat → Int32) (hg3 : rgA (0) (1) g3) (h5 : Nat) (g4 : Nat → Int32) (h6 : Nat) (g5 : Nat → Int32) (a0 : Int32) (ha0 : rg (0) (20) a0) (a1 : Int32) (h7 : Nat) (h8 : Nat) (g6 : Nat → Int32) (hg6 : rgA (0) (511) g6) (h9 : Nat) (g7 : Nat → Int32) (hg7 : rgA (0) (511) g7) (h10 : Nat) (g8 : Nat → Int32) (hg8 : rgA (0) (511) g8) (h11 : Nat) (h12 : Nat) (h13 : Nat) (a2 : Int32) (ha2 : rg (0) (511) a2) (a3 : Int32) (ha3 : rg (0) (9) a3) (a4 : Int32) (a5 : Int32) (a6 : Int32) (ha6 : rg (0) (1) a6) (a7 : Int32) (a8 : Int32) (a9 : Int32) (p1 : Int32) (sz : Nat) : Met l yX2_ask v_s_X2_ask ({ frames := 1, cells := 0, slots := 0, locals := 24 }) (va_Pc [.ref h0, .ref h7, .int p1] (fun U => U.heap.size = sz ∧ va_P (dC, dI) vwCl [(h0, .inr (2, [.ref h1, .ref h2, .ref h3, .ref h4, .ref h5, .ref h6, .int a0, .int a1])), (h1, .inl (cI, 20, .inl g0)), (h2, .inl (cI, 20, .inl g1)), (h3, .inl (cZ, 20, .inl g2)), (h4, .inl (cZ, 20, .inl g3)), (h5, .inl (cI, 20, .inl g4)), (h6, .inl (cI, 20, .inl g5)), (h7, .inr (7, [.ref h8, .ref h9, .ref h10, .ref h11, .ref h12, .ref h13, .int a2, .int a3, .int a4, .int a5, .int a6, .int a7, .int a8, .int a9])), (h8, .inl (cI, 9, .inl g6)), (h9, .inl (cI, 9, .inl g7)), (h10, .inl (cI, 9, .inl g8))] U.heap ∧ va_K (dC, dI) vwCl (ty5 cB cI cJ cZ cP) U ∧ va_D (fun _ => True) [(h0, .inr (2, [.ref h1, .ref h2, .ref h3, .ref h4, .ref h5, .ref h6, .int a0, .int a1])), (h1, .inl (cI, 20, .inl g0)), (h2, .inl (cI, 20, .inl g1)), (h3, .inl (cZ, 20, .inl g2)), (h4, .inl (cZ, 20, .inl g3)), (h5, .inl (cI, 20, .inl g4)), (h6, .inl (cI, 20, .inl g5)), (h7, .inr (7, [.ref h8, .ref h9, .ref h10, .ref h11, .ref h12, .ref h13, .int a2, .int a3, .int a4, .int a5, .int a6, .int a7, .int a8, .int a9])), (h8, .inl (cI, 9, .inl g6)), (h9, .inl (cI, 9, .inl g7)), (h10, .inl (cI, 9, .inl g8))])) (va_Qv (fun _ : Unit => True) (fun _ t => ∃ (z0 : Int32) (z1 : Nat → Int32) (z2 : Nat → Int32) (z3 : Nat → Int32), rg (0) (1) z0 ∧ rgA (0) (511) z1 ∧ rgA (0) (511) z2 ∧ rgA (0) (511) z3 ∧ va_P (dC, dI) vwCl [(h0, .inr (2, [.ref h1, .ref h2, .ref h3, .ref h4, .ref h5, .ref h6, .int a0, .int a1])), (h1, .inl (cI, 20, .inl g0)), (h2, .inl (cI, 20, .inl g1)), (h3, .inl (cZ, 20, .inl g2)), (h4, .inl (cZ, 20, .inl g3)), (h5, .inl (cI, 20, .inl g4)), (h6, .inl (cI, 20, .inl g5)), (h7, .inr (7, [.ref h8, .ref h9, .ref h10, .ref h11, .ref h12, .ref h13, .int a2, .int a3, .int a4, .int a5, .int z0, .int a7, .int a8, .int a9])), (h8, .inl (cI, 9, .inl z1)), (h9, .inl (cI, 9, .inl z2)), (h10, .inl (cI, 9, .inl z3))] t.heap ∧ va_D (va_A [(h0, .inr (2, [.ref h1, .ref h2, .ref h3, .ref h4, .ref h5, .ref h6, .int a0, .int a1])), (h1, .inl (cI, 20, .inl g0)), (h2, .inl (cI, 20, .inl g1)), (h3, .inl (cZ, 20, .inl g2)), (h4, .inl (cZ, 20, .inl g3)), (h5, .inl (cI, 20, .inl g4)), (h6, .inl (cI, 20, .inl g5)), (h7, .inr (7, [.ref h8, .ref h9, .ref h10, .ref h11, .ref h12, .ref h13, .int a2, .int a3, .int a4, .int a5, .int a6, .int a7, .int a8, .int a9])), (h8, .inl (cI, 9, .inl g6)), (h9, .inl (cI, 9, .inl g7)), (h10, .inl (cI, 9, .inl g8))] sz) [(h0, .inr (2, [.ref h1, .ref h2, .ref h3, .ref h4, .ref h5, .ref h6, .int a0, .int a1])), (h1, .inl (cI, 20, .inl g0)), (h2, .inl (cI, 20, .inl g1)), (h3, .inl (cZ, 20, .inl g2)), (h4, .inl (cZ, 20, .inl g3)), (h5, .inl (cI, 20, .inl g4)), (h6, .inl (cI, 20, .inl g5)), (h7, .inr (7, [.ref h8, .ref h9, .ref h10, .ref h11, .ref h12, .ref h13, .int a2, .int a3, .int a4, .int a5, .int z0, .int a7, .int a8, .int a9])), (h8, .inl (cI, 9, .inl z1)), (h9, .inl (cI, 9, .inl z2)), (h10, .inl (cI, 9, .inl z3))]) (va_A [(h0, .inr (2, [.ref h1, .ref h2, .ref h3, .ref h4, .ref h5, .ref h6, .int a0, .int a1])), (h1, .inl (cI, 20, .inl g0)), (h2, .inl (cI, 20, .inl g1)), (h3, .inl (cZ, 20, .inl g2)), (h4, .inl (cZ, 20, .inl g3)), (h5, .inl (cI, 20, .inl g4)), (h6, .inl (cI, 20, .inl g5)), (h7, .inr (7, [.ref h8, .ref h9, .ref h10, .ref h11, .ref h12, .ref h13, .int a2, .int a3, .int a4, .int a5, .int a6, .int a7, .int a8, .int a9])), (h8, .inl (cI, 9, .inl g6)), (h9, .inl (cI, 9, .inl g7)), (h10, .inl (cI, 9, .inl g8))] sz)) 0 0 (va_A [(h0, .inr (2, [.ref h1, .ref h2, .ref h3, .ref h4, .ref h5, .ref h6, .int a0, .int a1])), (h1, .inl (cI, 20, .inl g0)), (h2, .inl (cI, 20, .inl g1)), (h3, .inl (cZ, 20, .inl g2)), (h4, .inl (cZ, 20, .inl g3)), (h5, .inl (cI, 20, .inl g4)), (h6, .inl (cI, 20, .inl g5)), (h7, .inr (7, [.ref h8, .ref h9, .ref h10, .ref h11, .ref h12, .ref h13, .int a2, .int a3, .int a4, .int a5, .int a6, .int a7, .int a8, .int a9])), (h8, .inl (cI, 9, .inl g6)), (h9, .inl (cI, 9, .inl g7)), (h10, .inl (cI, 9, .inl g8))] sz) := by
  refine Met.ofW (cc := cX2_ask) (maxL := 5) (ret := none) (by decide) rfl ?_
  intro p e s m args below meth c s₁ B hml hv
  obtain ⟨rfl, hsz, hP, hK, hD0⟩ := hv
  have hx := B.exec
  have hb := B.bytes
  have hr := B.returns
  have hts := atoms_spec (ws := v_s_X2_ask) B.pre
  have hown : s.vm.findClass RX2 = some m.cls := findClass_of_methodNamed B.named
  have hlocks := B.notSynchronized
  have hinX2 : ∀ w ∈ wsX20, w ∈ v_s_X2_ask := fun _ h => List.mem_cons_of_mem _ (List.mem_append_right _ (List.mem_append_left _ h))
  subst hsz
  have hD := hD0.self (sz := s.heap.size)
  generalize hAe : va_A [(h0, .inr (2, [.ref h1, .ref h2, .ref h3, .ref h4, .ref h5, .ref h6, .int a0, .int a1])), (h1, .inl (cI, 20, .inl g0)), (h2, .inl (cI, 20, .inl g1)), (h3, .inl (cZ, 20, .inl g2)), (h4, .inl (cZ, 20, .inl g3)), (h5, .inl (cI, 20, .inl g4)), (h6, .inl (cI, 20, .inl g5)), (h7, .inr (7, [.ref h8, .ref h9, .ref h10, .ref h11, .ref h12, .ref h13, .int a2, .int a3, .int a4, .int a5, .int a6, .int a7, .int a8, .int a9])), (h8, .inl (cI, 9, .inl g6)), (h9, .inl (cI, 9, .inl g7)), (h10, .inl (cI, 9, .inl g8))] s.heap.size = A at hD ⊢
  have hA : ∀ q : Nat, s.heap.size ≤ q → A q := fun q h => by rw [← hAe]; exact Or.inr h
  have hP : va_P (dC, dI) vwCl [(h0, .inr (2, [.ref h1, .ref h2, .ref h3, .ref h4, .ref h5, .ref h6, .int a0, .int a1])), (h1, .inl (cI, 20, .inl g0)), (h2, .inl (cI, 20, .inl g1)), (h3, .inl (cZ, 20, .inl g2)), (h4, .inl (cZ, 20, .inl g3)), (h5, .inl (cI, 20, .inl g4)), (h6, .inl (cI, 20, .inl g5)), (h7, .inr (7, [.ref h8, .ref h9, .ref h10, .ref h11, .ref h12, .ref h13, .int a2, .int a3, .int a4, .int a5, .int a6, .int a7, .int a8, .int a9])), (h8, .inl (cI, 9, .inl g6)), (h9, .inl (cI, 9, .inl g7)), (h10, .inl (cI, 9, .inl g8))] s.heap := hP
  have hl := lv_entry ([.ref h0, .ref h7, .int p1]) (n := 5) (Nat.le_of_ble_eq_true rfl)
  rw [lg_entry_eq]
  generalize (lg_sl ([.ref h0, .ref h7, .int p1]) ++ List.replicate (5 - (lg_sl ([.ref h0, .ref h7, .int p1])).length) Slot.unset).toArray = ls at hl ⊢
  have hl : lv_has ls 5 [(0, .ref h0), (1, .ref h7), (2, .int p1)] := hl
  refine W_gen (A := A) hP (fun H locs hP hS => ?_)
  refine lv_iconst (v := 0) hx hb dX2_ask_0 (by decide) ?_
  refine lv_istore_n (lv' := [(3, .int 0), (0, .ref h0), (1, .ref h7), (2, .int p1)]) hx hb dX2_ask_1 rfl hl (by decide) rfl (fun ls hl => ?_)
  refine W_loopM (σ := Int32 × (Nat → Int32) × (Nat → Int32) × Int32 × (Nat → Int32)) (fun u H locs ls => va_P (dC, dI) vwCl [(h0, .inr (2, [.ref h1, .ref h2, .ref h3, .ref h4, .ref h5, .ref h6, .int a0, .int a1])), (h1, .inl (cI, 20, .inl g0)), (h2, .inl (cI, 20, .inl g1)), (h3, .inl (cZ, 20, .inl g2)), (h4, .inl (cZ, 20, .inl g3)), (h5, .inl (cI, 20, .inl g4)), (h6, .inl (cI, 20, .inl g5)), (h7, .inr (7, [.ref h8, .ref h9, .ref h10, .ref h11, .ref h12, .ref h13, .int a2, .int a3, .int a4, .int a5, .int u.2.2.2.1, .int a7, .int a8, .int a9])), (h8, .inl (cI, 9, .inl u.2.2.2.2)), (h9, .inl (cI, 9, .inl u.2.1)), (h10, .inl (cI, 9, .inl u.2.2.1))] H ∧ va_D A [(h0, .inr (2, [.ref h1, .ref h2, .ref h3, .ref h4, .ref h5, .ref h6, .int a0, .int a1])), (h1, .inl (cI, 20, .inl g0)), (h2, .inl (cI, 20, .inl g1)), (h3, .inl (cZ, 20, .inl g2)), (h4, .inl (cZ, 20, .inl g3)), (h5, .inl (cI, 20, .inl g4)), (h6, .inl (cI, 20, .inl g5)), (h7, .inr (7, [.ref h8, .ref h9, .ref h10, .ref h11, .ref h12, .ref h13, .int a2, .int a3, .int a4, .int a5, .int u.2.2.2.1, .int a7, .int a8, .int a9])), (h8, .inl (cI, 9, .inl u.2.2.2.2)), (h9, .inl (cI, 9, .inl u.2.1)), (h10, .inl (cI, 9, .inl u.2.2.1))] ∧ va_S A s.heap H locs ∧ lv_has ls 5 [(3, .int u.1), (0, .ref h0), (1, .ref h7), (2, .int p1)] ∧ rg (0) (20) u.1 ∧ rgA (0) (511) u.2.1 ∧ rgA (0) (511) u.2.2.1 ∧ rg (0) (1) u.2.2.2.1 ∧ rgA (0) (511) u.2.2.2.2) (fun u => ((20) - u.1.toInt).toNat) 2 [] ?_ (0, g7, g8, a6, g6) H locs ls ⟨hP, hD, hS, hl, (rg_mono (rg_k (x := 0) (c := 0) (by decide)) (by decide) (by decide)), hg7, hg8, (rg_mono ha6 (by decide) (by decide)), hg6⟩
  rintro ⟨x_905, f_906, f_907, x_908, f_909⟩ H locs ls ⟨hP, hD, hS, hl, hx_905, hf_906, hf_907, hx_908, hf_909⟩ ih_967
  replace hP : va_P (dC, dI) vwCl [(h0, .inr (2, [.ref h1, .ref h2, .ref h3, .ref h4, .ref h5, .ref h6, .int a0, .int a1])), (h1, .inl (cI, 20, .inl g0)), (h2, .inl (cI, 20, .inl g1)), (h3, .inl (cZ, 20, .inl g2)), (h4, .inl (cZ, 20, .inl g3)), (h5, .inl (cI, 20, .inl g4)), (h6, .inl (cI, 20, .inl g5)), (h7, .inr (7, [.ref h8, .ref h9, .ref h10, .ref h11, .ref h12, .ref h13, .int a2, .int a3, .int a4, .int a5, .int x_908, .int a7, .int a8, .int a9])), (h8, .inl (cI, 9, .inl f_909)), (h9, .inl (cI, 9, .inl f_906)), (h10, .inl (cI, 9, .inl f_907))] H := hP
  replace hD : va_D A [(h0, .inr (2, [.ref h1, .ref h2, .ref h3, .ref h4, .ref h5, .ref h6, .int a0, .int a1])), (h1, .inl (cI, 20, .inl g0)), (h2, .inl (cI, 20, .inl g1)), (h3, .inl (cZ, 20, .inl g2)), (h4, .inl (cZ, 20, .inl g3)), (h5, .inl (cI, 20, .inl g4)), (h6, .inl (cI, 20, .inl g5)), (h7, .inr (7, [.ref h8, .ref h9, .ref h10, .ref h11, .ref h12, .ref h13, .int a2, .int a3, .int a4, .int a5, .int x_908, .int a7, .int a8, .int a9])), (h8, .inl (cI, 9, .inl f_909)), (h9, .inl (cI, 9, .inl f_906)), (h10, .inl (cI, 9, .inl f_907))] := hD
  replace hl : lv_has ls 5 [(3, .int x_905), (0, .ref h0), (1, .ref h7), (2, .int p1)] := hl
  replace hx_905 : rg (0) (20) x_905 := hx_905
  replace hf_906 : rgA (0) (511) f_906 := hf_906
  replace hf_907 : rgA (0) (511) f_907 := hf_907
  replace hx_908 : rg (0) (1) x_908 := hx_908
  replace hf_909 : rgA (0) (511) f_909 := hf_909
  refine lv_iload_n hx hb dX2_ask_2 rfl (lv_at hl 0 rfl) ?_
  refine lv_aload_n hx hb dX2_ask_3 rfl (lv_at hl 1 rfl) ?_
  refine va_get (D := (dC, dI)) (ci := 2) (v := .int a0) (C := RX2) (T := TX2) (N := 8) hx hb hts hinX2 hown hK hP 0 rfl rfl 6 (by decide) (hts (.fieldLink RX2 31 "MayRings$Letters" "count" "I") (List.mem_of_getElem? (i := 1) rfl)) (fun _ h9 => h9) rfl dX2_ask_4 ?_
  refine lv_icmp_ge (tgt := 119) hx hb dX2_ask_7 (by decide) (fun c_968 => ?_) (fun c_968 => ?_)
  · skip
    have hP9 := hP.sub (ws' := [(h0, .inr (2, [.ref h1, .ref h2, .ref h3, .ref h4, .ref h5, .ref h6, .int a0, .int a1])), (h1, .inl (cI, 20, .inl g0)), (h2, .inl (cI, 20, .inl g1)), (h3, .inl (cZ, 20, .inl g2)), (h4, .inl (cZ, 20, .inl g3)), (h5, .inl (cI, 20, .inl g4)), (h6, .inl (cI, 20, .inl g5)), (h7, .inr (7, [.ref h8, .ref h9, .ref h10, .ref h11, .ref h12, .ref h13, .int a2, .int a3, .int a4, .int a5, .int x_908, .int a7, .int a8, .int a9])), (h8, .inl (cI, 9, .inl f_909)), (h9, .inl (cI, 9, .inl f_906)), (h10, .inl (cI, 9, .inl f_907))]) [0, 1, 2, 3, 4, 5, 6, 7, 8, 9, 10] rfl
    have hD9 := hD.sub (ws' := [(h0, .inr (2, [.ref h1, .ref h2, .ref h3, .ref h4, .ref h5, .ref h6, .int a0, .int a1])), (h1, .inl (cI, 20, .inl g0)), (h2, .inl (cI, 20, .inl g1)), (h3, .inl (cZ, 20, .inl g2)), (h4, .inl (cZ, 20, .inl g3)), (h5, .inl (cI, 20, .inl g4)), (h6, .inl (cI, 20, .inl g5)), (h7, .inr (7, [.ref h8, .ref h9, .ref h10, .ref h11, .ref h12, .ref h13, .int a2, .int a3, .int a4, .int a5, .int x_908, .int a7, .int a8, .int a9])), (h8, .inl (cI, 9, .inl f_909)), (h9, .inl (cI, 9, .inl f_906)), (h10, .inl (cI, 9, .inl f_907))]) [0, 1, 2, 3, 4, 5, 6, 7, 8, 9, 10] (by decide) rfl
    exact W.vret hx hb hr (fun t ht hW => ⟨⟨(), rfl, trivial, ⟨x_908, f_909, f_906, f_907, (rg_mono hx_908 (by decide) (by decide)), hf_909, hf_906, hf_907, by rw [ht]; exact hP9, hD9⟩⟩, hS.F ht⟩) hS.2.2 dX2_ask_119
  · skip
    have h_969 : rg (0) (19) x_905 := by have ha := hx_905; have hb_ := ha0; simp only [rg, fa_lt, fa_le, fa_eq] at ha hb_ c_968; simp only [rg]; omega
    have h_970 : rg (1) (20) a0 := by have ha := h_969; have hb_ := ha0; have hc_ := c_968; simp only [rg, fa_lt, fa_le, fa_eq] at ha hb_ hc_; simp only [rg]; omega
    have h_971 : rg (1) (20) a0 := by have ha := hx_905; have hb_ := ha0; simp only [rg, fa_lt, fa_le, fa_eq] at ha hb_ c_968; simp only [rg]; omega
    refine lv_aload_n hx hb dX2_ask_10 rfl (lv_at hl 1 rfl) ?_
    refine va_get (D := (dC, dI)) (ci := 2) (v := .ref h5) (C := RX2) (T := TX2) (N := 8) hx hb hts hinX2 hown hK hP 0 rfl rfl 4 (by decide) (hts (.fieldLink RX2 25 "MayRings$Letters" "toldAt" "[I") (List.mem_of_getElem? (i := 2) rfl)) (fun _ h9 => h9) rfl dX2_ask_11 ?_
    refine lv_iload_n hx hb dX2_ask_14 rfl (lv_at hl 0 rfl) ?_
    refine va_iald hx hb hK hP 5 1 rfl rfl (rg_in (n := 20) (rg_mono h_969 (by decide) (by decide))) dX2_ask_15 ?_
    refine lv_topi (fun x_972 ex_972 => ?_)
    refine lv_iload_n hx hb dX2_ask_16 rfl (lv_at hl 3 rfl) ?_
    refine lv_icmp_gt (tgt := 44) hx hb dX2_ask_17 (by decide) (fun c_973 => ?_) (fun c_973 => ?_)
    · skip
      have h_974 : rg (-2147483647) (2147483647) x_972 := by have ha := (rg_any x_972); have hb_ := (rg_any p1); simp only [rg, fa_lt, fa_le, fa_eq] at ha hb_ c_973; simp only [rg]; omega
      have h_975 : rg (-2147483648) (2147483646) p1 := by have ha := h_974; have hb_ := (rg_any p1); have hc_ := c_973; simp only [rg, fa_lt, fa_le, fa_eq] at ha hb_ hc_; simp only [rg]; omega
      have h_976 : rg (-2147483648) (2147483646) p1 := by have ha := (rg_any x_972); have hb_ := (rg_any p1); simp only [rg, fa_lt, fa_le, fa_eq] at ha hb_ c_973; simp only [rg]; omega
      refine lv_iconst (v := 0) hx hb dX2_ask_44 (by decide) ?_
      refine lv_istore (lv' := [(4, .int 0), (3, .int x_905), (0, .ref h0), (1, .ref h7), (2, .int p1)]) hx hb dX2_ask_45 hl (by decide) rfl (fun ls hl => ?_)
      refine lv_iload hx hb dX2_ask_47 (lv_at hl 0 rfl) ?_
      refine lv_if_eq (tgt := 86) hx hb dX2_ask_49 (by decide) (fun _ => ?_) (fun cz => absurd (by decide) cz)
      refine lv_iload hx hb dX2_ask_86 (lv_at hl 0 rfl) ?_
      refine lv_if_eq (tgt := 113) hx hb dX2_ask_88 (by decide) (fun _ => ?_) (fun cz => absurd (by decide) cz)
      obtain ⟨x_977, ex_977⟩ : ∃ y : Int32, y = x_905 + Int32.ofInt (1) := ⟨_, rfl⟩
      have hx_977 : rg (1) (20) x_977 := by rw [ex_977]; exact rg_mono (rg_add h_969 (rg_k (x := Int32.ofInt (1)) (c := 1) (by decide)) (by decide) (by decide)) (by decide) (by decide)
      have qx_977 : x_977.toInt = x_905.toInt + (1) := by rw [ex_977]; exact rg_addE h_969 (rg_k (x := Int32.ofInt (1)) (c := 1) (by decide)) (by decide) (by decide) (by decide)
      refine lv_iinc (v := x_977) (lv' := [(3, .int x_977), (4, .int 0), (0, .ref h0), (1, .ref h7), (2, .int p1)]) hx hb dX2_ask_113 hl (k := 1) rfl (ex_977.symm) (by decide) rfl (fun ls hl => ?_)
      clear ex_977
      refine lv_goto (tgt := 2) hx hb dX2_ask_116 (by decide) ?_
      exact ih_967 (x_977, f_906, f_907, x_908, f_909) H locs ls ⟨hP.sub (ws' := [(h0, .inr (2, [.ref h1, .ref h2, .ref h3, .ref h4, .ref h5, .ref h6, .int a0, .int a1])), (h1, .inl (cI, 20, .inl g0)), (h2, .inl (cI, 20, .inl g1)), (h3, .inl (cZ, 20, .inl g2)), (h4, .inl (cZ, 20, .inl g3)), (h5, .inl (cI, 20, .inl g4)), (h6, .inl (cI, 20, .inl g5)), (h7, .inr (7, [.ref h8, .ref h9, .ref h10, .ref h11, .ref h12, .ref h13, .int a2, .int a3, .int a4, .int a5, .int x_908, .int a7, .int a8, .int a9])), (h8, .inl (cI, 9, .inl f_909)), (h9, .inl (cI, 9, .inl f_906)), (h10, .inl (cI, 9, .inl f_907))]) [0, 1, 2, 3, 4, 5, 6, 7, 8, 9, 10] rfl, hD.sub (ws' := [(h0, .inr (2, [.ref h1, .ref h2, .ref h3, .ref h4, .ref h5, .ref h6, .int a0, .int a1])), (h1, .inl (cI, 20, .inl g0)), (h2, .inl (cI, 20, .inl g1)), (h3, .inl (cZ, 20, .inl g2)), (h4, .inl (cZ, 20, .inl g3)), (h5, .inl (cI, 20, .inl g4)), (h6, .inl (cI, 20, .inl g5)), (h7, .inr (7, [.ref h8, .ref h9, .ref h10, .ref h11, .ref h12, .ref h13, .int a2, .int a3, .int a4, .int a5, .int x_908, .int a7, .int a8, .int a9])), (h8, .inl (cI, 9, .inl f_909)), (h9, .inl (cI, 9, .inl f_906)), (h10, .inl (cI, 9, .inl f_907))]) [0, 1, 2, 3, 4, 5, 6, 7, 8, 9, 10] (by decide) rfl, hS, lv_sub hl [0, 2, 3, 4] rfl, (rg_mono hx_977 (by decide) (by decide)), hf_906, hf_907, (rg_mono hx_908 (by decide) (by decide)), hf_909⟩ (by show ((20) - x_977.toInt).toNat < ((20) - x_905.toInt).toNat; have ha := h_969; simp only [rg] at ha; omega)
    · skip
      refine lv_aload_n hx hb dX2_ask_20 rfl (lv_at hl 1 rfl) ?_
      refine va_get (D := (dC, dI)) (ci := 2) (v := .ref h6) (C := RX2) (T := TX2) (N := 8) hx hb hts hinX2 hown hK hP 0 rfl rfl 5 (by decide) (hts (.fieldLink RX2 28 "MayRings$Letters" "untoldAt" "[I") (List.mem_of_getElem? (i := 3) rfl)) (fun _ h9 => h9) rfl dX2_ask_21 ?_
      refine lv_iload_n hx hb dX2_ask_24 rfl (lv_at hl 0 rfl) ?_
      refine va_iald hx hb hK hP 6 1 rfl rfl (rg_in (n := 20) (rg_mono h_969 (by decide) (by decide))) dX2_ask_25 ?_
      refine lv_topi (fun x_978 ex_978 => ?_)
      refine lv_iconst (v := (-1)) hx hb dX2_ask_26 (by decide) ?_
      refine lv_icmp_eq (tgt := 40) hx hb dX2_ask_27 (by decide) (fun c_979 => ?_) (fun c_979 => ?_)
      · skip
        have h_980 : rg (-1) (-1) x_978 := by have ha := (rg_any x_978); have hb_ := (rg_k (x := (-1)) (c := -1) (by decide)); simp only [rg, fa_lt, fa_le, fa_eq, (by decide : ((-1) : Int32).toInt = -1)] at ha hb_ c_979; simp only [rg]; omega
        refine lv_iconst (v := 1) hx hb dX2_ask_40 (by decide) ?_
        refine lv_goto (tgt := 45) hx hb dX2_ask_41 (by decide) ?_
        refine lv_istore (lv' := [(4, .int 1), (3, .int x_905), (0, .ref h0), (1, .ref h7), (2, .int p1)]) hx hb dX2_ask_45 hl (by decide) rfl (fun ls hl => ?_)
        refine lv_iload hx hb dX2_ask_47 (lv_at hl 0 rfl) ?_
        refine lv_if_eq (tgt := 86) hx hb dX2_ask_49 (by decide) (fun cz => absurd cz (by decide)) (fun _ => ?_)
        refine lv_aload_n hx hb dX2_ask_52 rfl (lv_at hl 2 rfl) ?_
        refine va_get (D := (dC, dI)) (ci := 2) (v := .ref h3) (C := RX2) (T := TX2) (N := 8) hx hb hts hinX2 hown hK hP 0 rfl rfl 2 (by decide) (hts (.fieldLink RX2 18 "MayRings$Letters" "ofPlace" "[Z") (List.mem_of_getElem? (i := 4) rfl)) (fun _ h9 => h9) rfl dX2_ask_53 ?_
        refine lv_iload_n hx hb dX2_ask_56 rfl (lv_at hl 1 rfl) ?_
        refine va_zald hx hb hK hP 3 3 rfl rfl (rg_in (n := 20) (rg_mono h_969 (by decide) (by decide))) dX2_ask_57 ?_
        refine lv_topi (fun x_981 ex_981 => ?_)
        have hx_981 : rg (0) (1) x_981 := by rw [ex_981]; exact rg_mono (hg2 _) (by decide) (by decide)
        refine lv_if_eq (tgt := 86) hx hb dX2_ask_58 (by decide) (fun c_982 => ?_) (fun c_982 => ?_)
        · skip
          have h_983 : rg (0) (0) x_981 := by have ha := hx_981; have hb_ := (rg_k (x := 0) (c := 0) (by decide)); simp only [rg, fa_lt, fa_le, fa_eq, (by decide : (0 : Int32).toInt = 0)] at ha hb_ c_982; simp only [rg]; omega
          refine lv_iload hx hb dX2_ask_86 (lv_at hl 0 rfl) ?_
          refine lv_if_eq (tgt := 113) hx hb dX2_ask_88 (by decide) (fun cz => absurd cz (by decide)) (fun _ => ?_)
          refine lv_aload_n hx hb dX2_ask_91 rfl (lv_at hl 3 rfl) ?_
          refine lv_aload_n hx hb dX2_ask_92 rfl (lv_at hl 2 rfl) ?_
          refine va_get (D := (dC, dI)) (ci := 2) (v := .ref h1) (C := RX2) (T := TX2) (N := 8) hx hb hts hinX2 hown hK hP 0 rfl rfl 0 (by decide) (hts (.fieldLink RX2 11 "MayRings$Letters" "house" "[I") (List.mem_of_getElem? (i := 5) rfl)) (fun _ h9 => h9) rfl dX2_ask_93 ?_
          refine lv_iload_n hx hb dX2_ask_96 rfl (lv_at hl 1 rfl) ?_
          refine va_iald hx hb hK hP 1 1 rfl rfl (rg_in (n := 20) (rg_mono h_969 (by decide) (by decide))) dX2_ask_97 ?_
          refine lv_topi (fun x_984 ex_984 => ?_)
          have hx_984 : rg (0) (8) x_984 := by rw [ex_984]; exact rg_mono (hg0 _) (by decide) (by decide)
          refine lv_aload_n hx hb dX2_ask_98 rfl (lv_at hl 2 rfl) ?_
          refine va_get (D := (dC, dI)) (ci := 2) (v := .ref h2) (C := RX2) (T := TX2) (N := 8) hx hb hts hinX2 hown hK hP 0 rfl rfl 1 (by decide) (hts (.fieldLink RX2 15 "MayRings$Letters" "where" "[I") (List.mem_of_getElem? (i := 6) rfl)) (fun _ h9 => h9) rfl dX2_ask_99 ?_
          refine lv_iload_n hx hb dX2_ask_102 rfl (lv_at hl 1 rfl) ?_
          refine va_iald hx hb hK hP 2 1 rfl rfl (rg_in (n := 20) (rg_mono h_969 (by decide) (by decide))) dX2_ask_103 ?_
          refine lv_topi (fun x_985 ex_985 => ?_)
          have hx_985 : rg (0) (8) x_985 := by rw [ex_985]; exact rg_mono (hg1 _) (by decide) (by decide)
          refine lv_aload_n hx hb dX2_ask_104 rfl (lv_at hl 2 rfl) ?_
          refine va_get (D := (dC, dI)) (ci := 2) (v := .ref h4) (C := RX2) (T := TX2) (N := 8) hx hb hts hinX2 hown hK hP 0 rfl rfl 3 (by decide) (hts (.fieldLink RX2 22 "MayRings$Letters" "isSo" "[Z") (List.mem_of_getElem? (i := 7) rfl)) (fun _ h9 => h9) rfl dX2_ask_105 ?_
          refine lv_iload_n hx hb dX2_ask_108 rfl (lv_at hl 1 rfl) ?_
          refine va_zald hx hb hK hP 4 3 rfl rfl (rg_in (n := 20) (rg_mono h_969 (by decide) (by decide))) dX2_ask_109 ?_
          refine lv_topi (fun x_986 ex_986 => ?_)
          have hx_986 : rg (0) (1) x_986 := by rw [ex_986]; exact rg_mono (hg3 _) (by decide) (by decide)
          have hPc := hP.sub (ws' := [(h7, .inr (7, [.ref h8, .ref h9, .ref h10, .ref h11, .ref h12, .ref h13, .int a2, .int a3, .int a4, .int a5, .int x_908, .int a7, .int a8, .int a9])), (h9, .inl (cI, 9, .inl f_906)), (h10, .inl (cI, 9, .inl f_907))]) [7, 9, 10] rfl
          have hDc := hD.sub (ws' := [(h7, .inr (7, [.ref h8, .ref h9, .ref h10, .ref h11, .ref h12, .ref h13, .int a2, .int a3, .int a4, .int a5, .int x_908, .int a7, .int a8, .int a9])), (h9, .inl (cI, 9, .inl f_906)), (h10, .inl (cI, 9, .inl f_907))]) [7, 9, 10] (by decide) rfl
          have hFc := va_free (wc := [(h7, .inr (7, [.ref h8, .ref h9, .ref h10, .ref h11, .ref h12, .ref h13, .int a2, .int a3, .int a4, .int a5, .int x_908, .int a7, .int a8, .int a9])), (h9, .inl (cI, 9, .inl f_906)), (h10, .inl (cI, 9, .inl f_907))]) hD hS hA [7, 9, 10] rfl
          refine va_callv (va_runV (As := [.int x_984, .int x_985, .int x_986]) (rest := []) ⟨hx, hb, hml, hown, hts⟩ (c_s_X7_heedPair l dC dI cB cI cJ cZ cP h7 h8 h9 f_906 hf_906 h10 f_907 hf_907 h11 h12 h13 a2 (rg_mono ha2 (by decide) (by decide)) a3 a4 a5 x_908 (rg_mono hx_908 (by decide) (by decide)) a7 a8 a9 x_984 (rg_mono hx_984 (by decide) (by decide)) x_985 (rg_mono hx_985 (by decide) (by decide)) x_986 (rg_mono hx_986 (by decide) (by decide)) H.size) (cwV 3 hts (gd_V (List.mem_of_getElem? (i := 8) rfl) (List.mem_of_getElem? (i := 9) rfl) (List.mem_of_getElem? (i := 10) rfl) (List.mem_of_getElem? (i := 11) rfl) (gd_mono k_s_X7_heedPair (fun _ h => List.mem_cons_of_mem _ (List.mem_append_right _ (List.mem_append_right _ (List.mem_append_left _ h)))))) rfl rfl rfl (by decide +kernel) ⟨Nat.le_of_ble_eq_true rfl, Nat.le_of_ble_eq_true rfl⟩) ⟨fun a U g mk q => by obtain ⟨q0, q1, qP, qK, qD⟩ := q; exact ⟨q0, q1, qP, va_K.moved (u := U) (U := U.calling g mk a) (Vm.Alike.refl U.vm) qK, qD⟩, va_recv hK hPc (ci := 7) (q0 := 0) rfl rfl, fun U hU hW => ⟨rfl, by rw [hU], by rw [hU]; exact hPc, va_K.moved hW.alike hK, hDc.weaken (fun _ _ _ _ => trivial)⟩⟩ rfl rfl hl.1 rfl (lv_room (Nat.le_of_ble_eq_true rfl)) dX2_ask_110 ⟨Nat.le_of_ble_eq_true rfl, Nat.le_of_ble_eq_true rfl⟩) hS (fun q _ h => hFc q h) hFc (fun u t H1 locs ht hvm hw hB hz1 hk1 hS => ?_)
          obtain ⟨x_988, f_989, f_990, hx_988, hf_989, hf_990, hP1, hD1⟩ := hB
          rw [ht] at hP1
          obtain ⟨hP, hD⟩ := va_join (wr := [(h0, .inr (2, [.ref h1, .ref h2, .ref h3, .ref h4, .ref h5, .ref h6, .int a0, .int a1])), (h1, .inl (cI, 20, .inl g0)), (h2, .inl (cI, 20, .inl g1)), (h3, .inl (cZ, 20, .inl g2)), (h4, .inl (cZ, 20, .inl g3)), (h5, .inl (cI, 20, .inl g4)), (h6, .inl (cI, 20, .inl g5)), (h8, .inl (cI, 9, .inl f_909))]) (w1 := [(h7, .inr (7, [.ref h8, .ref h9, .ref h10, .ref h11, .ref h12, .ref h13, .int a2, .int a3, .int a4, .int a5, .int x_988, .int a7, .int a8, .int a9])), (h9, .inl (cI, 9, .inl f_989)), (h10, .inl (cI, 9, .inl f_990))]) hP hD [7, 9, 10] [0, 1, 2, 3, 4, 5, 6, 8] rfl rfl (by decide) (by decide) hk1 hFc hP1 hD1
          generalize H1 = H at hP hS ⊢
          replace hP : va_P (dC, dI) vwCl [(h0, .inr (2, [.ref h1, .ref h2, .ref h3, .ref h4, .ref h5, .ref h6, .int a0, .int a1])), (h1, .inl (cI, 20, .inl g0)), (h2, .inl (cI, 20, .inl g1)), (h3, .inl (cZ, 20, .inl g2)), (h4, .inl (cZ, 20, .inl g3)), (h5, .inl (cI, 20, .inl g4)), (h6, .inl (cI, 20, .inl g5)), (h8, .inl (cI, 9, .inl f_909)), (h7, .inr (7, [.ref h8, .ref h9, .ref h10, .ref h11, .ref h12, .ref h13, .int a2, .int a3, .int a4, .int a5, .int x_988, .int a7, .int a8, .int a9])), (h9, .inl (cI, 9, .inl f_989)), (h10, .inl (cI, 9, .inl f_990))] H := hP
          replace hD : va_D A [(h0, .inr (2, [.ref h1, .ref h2, .ref h3, .ref h4, .ref h5, .ref h6, .int a0, .int a1])), (h1, .inl (cI, 20, .inl g0)), (h2, .inl (cI, 20, .inl g1)), (h3, .inl (cZ, 20, .inl g2)), (h4, .inl (cZ, 20, .inl g3)), (h5, .inl (cI, 20, .inl g4)), (h6, .inl (cI, 20, .inl g5)), (h8, .inl (cI, 9, .inl f_909)), (h7, .inr (7, [.ref h8, .ref h9, .ref h10, .ref h11, .ref h12, .ref h13, .int a2, .int a3, .int a4, .int a5, .int x_988, .int a7, .int a8, .int a9])), (h9, .inl (cI, 9, .inl f_989)), (h10, .inl (cI, 9, .inl f_990))] := hD
          obtain ⟨x_991, ex_991⟩ : ∃ y : Int32, y = x_905 + Int32.ofInt (1) := ⟨_, rfl⟩
          have hx_991 : rg (1) (20) x_991 := by rw [ex_991]; exact rg_mono (rg_add h_969 (rg_k (x := Int32.ofInt (1)) (c := 1) (by decide)) (by decide) (by decide)) (by decide) (by decide)
          have qx_991 : x_991.toInt = x_905.toInt + (1) := by rw [ex_991]; exact rg_addE h_969 (rg_k (x := Int32.ofInt (1)) (c := 1) (by decide)) (by decide) (by decide) (by decide)
          refine lv_iinc (v := x_991) (lv' := [(3, .int x_991), (4, .int 1), (0, .ref h0), (1, .ref h7), (2, .int p1)]) hx hb dX2_ask_113 hl (k := 1) rfl (ex_991.symm) (by decide) rfl (fun ls hl => ?_)
          clear ex_991
          refine lv_goto (tgt := 2) hx hb dX2_ask_116 (by decide) ?_
          exact ih_967 (x_991, f_989, f_990, x_988, f_909) H locs ls ⟨hP.sub (ws' := [(h0, .inr (2, [.ref h1, .ref h2, .ref h3, .ref h4, .ref h5, .ref h6, .int a0, .int a1])), (h1, .inl (cI, 20, .inl g0)), (h2, .inl (cI, 20, .inl g1)), (h3, .inl (cZ, 20, .inl g2)), (h4, .inl (cZ, 20, .inl g3)), (h5, .inl (cI, 20, .inl g4)), (h6, .inl (cI, 20, .inl g5)), (h7, .inr (7, [.ref h8, .ref h9, .ref h10, .ref h11, .ref h12, .ref h13, .int a2, .int a3, .int a4, .int a5, .int x_988, .int a7, .int a8, .int a9])), (h8, .inl (cI, 9, .inl f_909)), (h9, .inl (cI, 9, .inl f_989)), (h10, .inl (cI, 9, .inl f_990))]) [0, 1, 2, 3, 4, 5, 6, 8, 7, 9, 10] rfl, hD.sub (ws' := [(h0, .inr (2, [.ref h1, .ref h2, .ref h3, .ref h4, .ref h5, .ref h6, .int a0, .int a1])), (h1, .inl (cI, 20, .inl g0)), (h2, .inl (cI, 20, .inl g1)), (h3, .inl (cZ, 20, .inl g2)), (h4, .inl (cZ, 20, .inl g3)), (h5, .inl (cI, 20, .inl g4)), (h6, .inl (cI, 20, .inl g5)), (h7, .inr (7, [.ref h8, .ref h9, .ref h10, .ref h11, .ref h12, .ref h13, .int a2, .int a3, .int a4, .int a5, .int x_988, .int a7, .int a8, .int a9])), (h8, .inl (cI, 9, .inl f_909)), (h9, .inl (cI, 9, .inl f_989)), (h10, .inl (cI, 9, .inl f_990))]) [0, 1, 2, 3, 4, 5, 6, 8, 7, 9, 10] (by decide) rfl, hS, lv_sub hl [0, 2, 3, 4] rfl, (rg_mono hx_991 (by decide) (by decide)), hf_989, hf_990, (rg_mono hx_988 (by decide) (by decide)), hf_909⟩ (by show ((20) - x_991.toInt).toNat < ((20) - x_905.toInt).toNat; have ha := h_969; simp only [rg] at ha; omega)
        · skip
          have h_992 : rg (1) (1) x_981 := by have ha := hx_981; have hb_ := (rg_k (x := 0) (c := 0) (by decide)); simp only [rg, fa_lt, fa_le, fa_eq, (by decide : (0 : Int32).toInt = 0)] at ha hb_ c_982; simp only [rg]; omega
          refine lv_aload_n hx hb dX2_ask_61 rfl (lv_at hl 3 rfl) ?_
          refine lv_aload_n hx hb dX2_ask_62 rfl (lv_at hl 2 rfl) ?_
          refine va_get (D := (dC, dI)) (ci := 2) (v := .ref h1) (C := RX2) (T := TX2) (N := 8) hx hb hts hinX2 hown hK hP 0 rfl rfl 0 (by decide) (hts (.fieldLink RX2 11 "MayRings$Letters" "house" "[I") (List.mem_of_getElem? (i := 5) rfl)) (fun _ h9 => h9) rfl dX2_ask_63 ?_
          refine lv_iload_n hx hb dX2_ask_66 rfl (lv_at hl 1 rfl) ?_
          refine va_iald hx hb hK hP 1 1 rfl rfl (rg_in (n := 20) (rg_mono h_969 (by decide) (by decide))) dX2_ask_67 ?_
          refine lv_topi (fun x_993 ex_993 => ?_)
          have hx_993 : rg (0) (8) x_993 := by rw [ex_993]; exact rg_mono (hg0 _) (by decide) (by decide)
          refine lv_aload_n hx hb dX2_ask_68 rfl (lv_at hl 2 rfl) ?_
          refine va_get (D := (dC, dI)) (ci := 2) (v := .ref h2) (C := RX2) (T := TX2) (N := 8) hx hb hts hinX2 hown hK hP 0 rfl rfl 1 (by decide) (hts (.fieldLink RX2 15 "MayRings$Letters" "where" "[I") (List.mem_of_getElem? (i := 6) rfl)) (fun _ h9 => h9) rfl dX2_ask_69 ?_
          refine lv_iload_n hx hb dX2_ask_72 rfl (lv_at hl 1 rfl) ?_
          refine va_iald hx hb hK hP 2 1 rfl rfl (rg_in (n := 20) (rg_mono h_969 (by decide) (by decide))) dX2_ask_73 ?_
          refine lv_topi (fun x_994 ex_994 => ?_)
          have hx_994 : rg (0) (8) x_994 := by rw [ex_994]; exact rg_mono (hg1 _) (by decide) (by decide)
          refine lv_aload_n hx hb dX2_ask_74 rfl (lv_at hl 2 rfl) ?_
          refine va_get (D := (dC, dI)) (ci := 2) (v := .ref h4) (C := RX2) (T := TX2) (N := 8) hx hb hts hinX2 hown hK hP 0 rfl rfl 3 (by decide) (hts (.fieldLink RX2 22 "MayRings$Letters" "isSo" "[Z") (List.mem_of_getElem? (i := 7) rfl)) (fun _ h9 => h9) rfl dX2_ask_75 ?_
          refine lv_iload_n hx hb dX2_ask_78 rfl (lv_at hl 1 rfl) ?_
          refine va_zald hx hb hK hP 4 3 rfl rfl (rg_in (n := 20) (rg_mono h_969 (by decide) (by decide))) dX2_ask_79 ?_
          refine lv_topi (fun x_995 ex_995 => ?_)
          have hx_995 : rg (0) (1) x_995 := by rw [ex_995]; exact rg_mono (hg3 _) (by decide) (by decide)
          have hPc := hP.sub (ws' := [(h7, .inr (7, [.ref h8, .ref h9, .ref h10, .ref h11, .ref h12, .ref h13, .int a2, .int a3, .int a4, .int a5, .int x_908, .int a7, .int a8, .int a9])), (h8, .inl (cI, 9, .inl f_909))]) [7, 8] rfl
          have hDc := hD.sub (ws' := [(h7, .inr (7, [.ref h8, .ref h9, .ref h10, .ref h11, .ref h12, .ref h13, .int a2, .int a3, .int a4, .int a5, .int x_908, .int a7, .int a8, .int a9])), (h8, .inl (cI, 9, .inl f_909))]) [7, 8] (by decide) rfl
          have hFc := va_free (wc := [(h7, .inr (7, [.ref h8, .ref h9, .ref h10, .ref h11, .ref h12, .ref h13, .int a2, .int a3, .int a4, .int a5, .int x_908, .int a7, .int a8, .int a9])), (h8, .inl (cI, 9, .inl f_909))]) hD hS hA [7, 8] rfl
          refine va_callv (va_runV (As := [.int x_993, .int x_994, .int x_995]) (rest := []) ⟨hx, hb, hml, hown, hts⟩ (c_s_X7_heedPlace l dC dI cB cI cJ cZ cP h7 h8 f_909 hf_909 h9 h10 h11 h12 h13 a2 (rg_mono ha2 (by decide) (by decide)) a3 (rg_mono ha3 (by decide) (by decide)) a4 a5 x_908 (rg_mono hx_908 (by decide) (by decide)) a7 a8 a9 x_993 (rg_mono hx_993 (by decide) (by decide)) x_994 (rg_mono hx_994 (by decide) (by decide)) x_995 (rg_mono hx_995 (by decide) (by decide)) H.size) (cwV 3 hts (gd_V (List.mem_of_getElem? (i := 12) rfl) (List.mem_of_getElem? (i := 13) rfl) (List.mem_of_getElem? (i := 14) rfl) (List.mem_of_getElem? (i := 11) rfl) (gd_mono k_s_X7_heedPlace (fun _ h => List.mem_cons_of_mem _ (List.mem_append_right _ (List.mem_append_right _ (List.mem_append_right _ (List.mem_append_left _ h))))))) rfl rfl rfl (by decide +kernel) ⟨Nat.le_of_ble_eq_true rfl, Nat.le_of_ble_eq_true rfl⟩) ⟨fun a U g mk q => by obtain ⟨q0, q1, qP, qK, qD⟩ := q; exact ⟨q0, q1, qP, va_K.moved (u := U) (U := U.calling g mk a) (Vm.Alike.refl U.vm) qK, qD⟩, va_recv hK hPc (ci := 7) (q0 := 0) rfl rfl, fun U hU hW => ⟨rfl, by rw [hU], by rw [hU]; exact hPc, va_K.moved hW.alike hK, hDc.weaken (fun _ _ _ _ => trivial)⟩⟩ rfl rfl hl.1 rfl (lv_room (Nat.le_of_ble_eq_true rfl)) dX2_ask_80 ⟨Nat.le_of_ble_eq_true rfl, Nat.le_of_ble_eq_true rfl⟩) hS (fun q _ h => hFc q h) hFc (fun u t H1 locs ht hvm hw hB hz1 hk1 hS => ?_)
          obtain ⟨x_997, f_998, hx_997, hf_998, hP1, hD1⟩ := hB
          rw [ht] at hP1
          obtain ⟨hP, hD⟩ := va_join (wr := [(h0, .inr (2, [.ref h1, .ref h2, .ref h3, .ref h4, .ref h5, .ref h6, .int a0, .int a1])), (h1, .inl (cI, 20, .inl g0)), (h2, .inl (cI, 20, .inl g1)), (h3, .inl (cZ, 20, .inl g2)), (h4, .inl (cZ, 20, .inl g3)), (h5, .inl (cI, 20, .inl g4)), (h6, .inl (cI, 20, .inl g5)), (h9, .inl (cI, 9, .inl f_906)), (h10, .inl (cI, 9, .inl f_907))]) (w1 := [(h7, .inr (7, [.ref h8, .ref h9, .ref h10, .ref h11, .ref h12, .ref h13, .int a2, .int a3, .int a4, .int a5, .int x_997, .int a7, .int a8, .int a9])), (h8, .inl (cI, 9, .inl f_998))]) hP hD [7, 8] [0, 1, 2, 3, 4, 5, 6, 9, 10] rfl rfl (by decide) (by decide) hk1 hFc hP1 hD1
          generalize H1 = H at hP hS ⊢
          replace hP : va_P (dC, dI) vwCl [(h0, .inr (2, [.ref h1, .ref h2, .ref h3, .ref h4, .ref h5, .ref h6, .int a0, .int a1])), (h1, .inl (cI, 20, .inl g0)), (h2, .inl (cI, 20, .inl g1)), (h3, .inl (cZ, 20, .inl g2)), (h4, .inl (cZ, 20, .inl g3)), (h5, .inl (cI, 20, .inl g4)), (h6, .inl (cI, 20, .inl g5)), (h9, .inl (cI, 9, .inl f_906)), (h10, .inl (cI, 9, .inl f_907)), (h7, .inr (7, [.ref h8, .ref h9, .ref h10, .ref h11, .ref h12, .ref h13, .int a2, .int a3, .int a4, .int a5, .int x_997, .int a7, .int a8, .int a9])), (h8, .inl (cI, 9, .inl f_998))] H := hP
          replace hD : va_D A [(h0, .inr (2, [.ref h1, .ref h2, .ref h3, .ref h4, .ref h5, .ref h6, .int a0, .int a1])), (h1, .inl (cI, 20, .inl g0)), (h2, .inl (cI, 20, .inl g1)), (h3, .inl (cZ, 20, .inl g2)), (h4, .inl (cZ, 20, .inl g3)), (h5, .inl (cI, 20, .inl g4)), (h6, .inl (cI, 20, .inl g5)), (h9, .inl (cI, 9, .inl f_906)), (h10, .inl (cI, 9, .inl f_907)), (h7, .inr (7, [.ref h8, .ref h9, .ref h10, .ref h11, .ref h12, .ref h13, .int a2, .int a3, .int a4, .int a5, .int x_997, .int a7, .int a8, .int a9])), (h8, .inl (cI, 9, .inl f_998))] := hD
          refine lv_goto (tgt := 113) hx hb dX2_ask_83 (by decide) ?_
          obtain ⟨x_999, ex_999⟩ : ∃ y : Int32, y = x_905 + Int32.ofInt (1) := ⟨_, rfl⟩
          have hx_999 : rg (1) (20) x_999 := by rw [ex_999]; exact rg_mono (rg_add h_969 (rg_k (x := Int32.ofInt (1)) (c := 1) (by decide)) (by decide) (by decide)) (by decide) (by decide)
          have qx_999 : x_999.toInt = x_905.toInt + (1) := by rw [ex_999]; exact rg_addE h_969 (rg_k (x := Int32.ofInt (1)) (c := 1) (by decide)) (by decide) (by decide) (by decide)
          refine lv_iinc (v := x_999) (lv' := [(3, .int x_999), (4, .int 1), (0, .ref h0), (1, .ref h7), (2, .int p1)]) hx hb dX2_ask_113 hl (k := 1) rfl (ex_999.symm) (by decide) rfl (fun ls hl => ?_)
          clear ex_999
          refine lv_goto (tgt := 2) hx hb dX2_ask_116 (by decide) ?_
          exact ih_967 (x_999, f_906, f_907, x_997, f_998) H locs ls ⟨hP.sub (ws' := [(h0, .inr (2, [.ref h1, .ref h2, .ref h3, .ref h4, .ref h5, .ref h6, .int a0, .int a1])), (h1, .inl (cI, 20, .inl g0)), (h2, .inl (cI, 20, .inl g1)), (h3, .inl (cZ, 20, .inl g2)), (h4, .inl (cZ, 20, .inl g3)), (h5, .inl (cI, 20, .inl g4)), (h6, .inl (cI, 20, .inl g5)), (h7, .inr (7, [.ref h8, .ref h9, .ref h10, .ref h11, .ref h12, .ref h13, .int a2, .int a3, .int a4, .int a5, .int x_997, .int a7, .int a8, .int a9])), (h8, .inl (cI, 9, .inl f_998)), (h9, .inl (cI, 9, .inl f_906)), (h10, .inl (cI, 9, .inl f_907))]) [0, 1, 2, 3, 4, 5, 6, 9, 10, 7, 8] rfl, hD.sub (ws' := [(h0, .inr (2, [.ref h1, .ref h2, .ref h3, .ref h4, .ref h5, .ref h6, .int a0, .int a1])), (h1, .inl (cI, 20, .inl g0)), (h2, .inl (cI, 20, .inl g1)), (h3, .inl (cZ, 20, .inl g2)), (h4, .inl (cZ, 20, .inl g3)), (h5, .inl (cI, 20, .inl g4)), (h6, .inl (cI, 20, .inl g5)), (h7, .inr (7, [.ref h8, .ref h9, .ref h10, .ref h11, .ref h12, .ref h13, .int a2, .int a3, .int a4, .int a5, .int x_997, .int a7, .int a8, .int a9])), (h8, .inl (cI, 9, .inl f_998)), (h9, .inl (cI, 9, .inl f_906)), (h10, .inl (cI, 9, .inl f_907))]) [0, 1, 2, 3, 4, 5, 6, 9, 10, 7, 8] (by decide) rfl, hS, lv_sub hl [0, 2, 3, 4] rfl, (rg_mono hx_999 (by decide) (by decide)), hf_906, hf_907, (rg_mono hx_997 (by decide) (by decide)), hf_998⟩ (by show ((20) - x_999.toInt).toNat < ((20) - x_905.toInt).toNat; have ha := h_969; simp only [rg] at ha; omega)
      · skip
        refine lv_aload_n hx hb dX2_ask_30 rfl (lv_at hl 1 rfl) ?_
        refine va_get (D := (dC, dI)) (ci := 2) (v := .ref h6) (C := RX2) (T := TX2) (N := 8) hx hb hts hinX2 hown hK hP 0 rfl rfl 5 (by decide) (hts (.fieldLink RX2 28 "MayRings$Letters" "untoldAt" "[I") (List.mem_of_getElem? (i := 3) rfl)) (fun _ h9 => h9) rfl dX2_ask_31 ?_
        refine lv_iload_n hx hb dX2_ask_34 rfl (lv_at hl 0 rfl) ?_
        refine va_iald hx hb hK hP 6 1 rfl rfl (rg_in (n := 20) (rg_mono h_969 (by decide) (by decide))) dX2_ask_35 ?_
        refine tp_v (.int x_978) (congrArg Value.int (ex_978.symm)) ?_
        refine lv_iload_n hx hb dX2_ask_36 rfl (lv_at hl 3 rfl) ?_
        refine lv_icmp_le (tgt := 44) hx hb dX2_ask_37 (by decide) (fun c_1000 => ?_) (fun c_1000 => ?_)
        · skip
          refine lv_iconst (v := 0) hx hb dX2_ask_44 (by decide) ?_
          refine lv_istore (lv' := [(4, .int 0), (3, .int x_905), (0, .ref h0), (1, .ref h7), (2, .int p1)]) hx hb dX2_ask_45 hl (by decide) rfl (fun ls hl => ?_)
          refine lv_iload hx hb dX2_ask_47 (lv_at hl 0 rfl) ?_
          refine lv_if_eq (tgt := 86) hx hb dX2_ask_49 (by decide) (fun _ => ?_) (fun cz => absurd (by decide) cz)
          refine lv_iload hx hb dX2_ask_86 (lv_at hl 0 rfl) ?_
          refine lv_if_eq (tgt := 113) hx hb dX2_ask_88 (by decide) (fun _ => ?_) (fun cz => absurd (by decide) cz)
          obtain ⟨x_1001, ex_1001⟩ : ∃ y : Int32, y = x_905 + Int32.ofInt (1) := ⟨_, rfl⟩
          have hx_1001 : rg (1) (20) x_1001 := by rw [ex_1001]; exact rg_mono (rg_add h_969 (rg_k (x := Int32.ofInt (1)) (c := 1) (by decide)) (by decide) (by decide)) (by decide) (by decide)
          have qx_1001 : x_1001.toInt = x_905.toInt + (1) := by rw [ex_1001]; exact rg_addE h_969 (rg_k (x := Int32.ofInt (1)) (c := 1) (by decide)) (by decide) (by decide) (by decide)
          refine lv_iinc (v := x_1001) (lv' := [(3, .int x_1001), (4, .int 0), (0, .ref h0), (1, .ref h7), (2, .int p1)]) hx hb dX2_ask_113 hl (k := 1) rfl (ex_1001.symm) (by decide) rfl (fun ls hl => ?_)
          clear ex_1001
          refine lv_goto (tgt := 2) hx hb dX2_ask_116 (by decide) ?_
          exact ih_967 (x_1001, f_906, f_907, x_908, f_909) H locs ls ⟨hP.sub (ws' := [(h0, .inr (2, [.ref h1, .ref h2, .ref h3, .ref h4, .ref h5, .ref h6, .int a0, .int a1])), (h1, .inl (cI, 20, .inl g0)), (h2, .inl (cI, 20, .inl g1)), (h3, .inl (cZ, 20, .inl g2)), (h4, .inl (cZ, 20, .inl g3)), (h5, .inl (cI, 20, .inl g4)), (h6, .inl (cI, 20, .inl g5)), (h7, .inr (7, [.ref h8, .ref h9, .ref h10, .ref h11, .ref h12, .ref h13, .int a2, .int a3, .int a4, .int a5, .int x_908, .int a7, .int a8, .int a9])), (h8, .inl (cI, 9, .inl f_909)), (h9, .inl (cI, 9, .inl f_906)), (h10, .inl (cI, 9, .inl f_907))]) [0, 1, 2, 3, 4, 5, 6, 7, 8, 9, 10] rfl, hD.sub (ws' := [(h0, .inr (2, [.ref h1, .ref h2, .ref h3, .ref h4, .ref h5, .ref h6, .int a0, .int a1])), (h1, .inl (cI, 20, .inl g0)), (h2, .inl (cI, 20, .inl g1)), (h3, .inl (cZ, 20, .inl g2)), (h4, .inl (cZ, 20, .inl g3)), (h5, .inl (cI, 20, .inl g4)), (h6, .inl (cI, 20, .inl g5)), (h7, .inr (7, [.ref h8, .ref h9, .ref h10, .ref h11, .ref h12, .ref h13, .int a2, .int a3, .int a4, .int a5, .int x_908, .int a7, .int a8, .int a9])), (h8, .inl (cI, 9, .inl f_909)), (h9, .inl (cI, 9, .inl f_906)), (h10, .inl (cI, 9, .inl f_907))]) [0, 1, 2, 3, 4, 5, 6, 7, 8, 9, 10] (by decide) rfl, hS, lv_sub hl [0, 2, 3, 4] rfl, (rg_mono hx_1001 (by decide) (by decide)), hf_906, hf_907, (rg_mono hx_908 (by decide) (by decide)), hf_909⟩ (by show ((20) - x_1001.toInt).toNat < ((20) - x_905.toInt).toNat; have ha := h_969; simp only [rg] at ha; omega)
        · skip
          have h_1002 : rg (-2147483647) (2147483647) x_978 := by have ha := (rg_any x_978); have hb_ := (rg_any p1); simp only [rg, fa_lt, fa_le, fa_eq] at ha hb_ c_1000; simp only [rg]; omega
          have h_1003 : rg (-2147483648) (2147483646) p1 := by have ha := h_1002; have hb_ := (rg_any p1); have hc_ := c_1000; simp only [rg, fa_lt, fa_le, fa_eq] at ha hb_ hc_; simp only [rg]; omega
          have h_1004 : rg (-2147483648) (2147483646) x_972 := by have ha := (rg_any x_972); have hb_ := h_1003; have hc_ := c_973; simp only [rg, fa_lt, fa_le, fa_eq] at ha hb_ hc_; simp only [rg]; omega
          have h_1005 : rg (-2147483648) (2147483646) p1 := by have ha := (rg_any x_978); have hb_ := (rg_any p1); simp only [rg, fa_lt, fa_le, fa_eq] at ha hb_ c_1000; simp only [rg]; omega
          refine lv_iconst (v := 1) hx hb dX2_ask_40 (by decide) ?_
          refine lv_goto (tgt := 45) hx hb dX2_ask_41 (by decide) ?_
          refine lv_istore (lv' := [(4, .int 1), (3, .int x_905), (0, .ref h0), (1, .ref h7), (2, .int p1)]) hx hb dX2_ask_45 hl (by decide) rfl (fun ls hl => ?_)
          refine lv_iload hx hb dX2_ask_47 (lv_at hl 0 rfl) ?_
          refine lv_if_eq (tgt := 86) hx hb dX2_ask_49 (by decide) (fun cz => absurd cz (by decide)) (fun _ => ?_)
          refine lv_aload_n hx hb dX2_ask_52 rfl (lv_at hl 2 rfl) ?_
          refine va_get (D := (dC, dI)) (ci := 2) (v := .ref h3) (C := RX2) (T := TX2) (N := 8) hx hb hts hinX2 hown hK hP 0 rfl rfl 2 (by decide) (hts (.fieldLink RX2 18 "MayRings$Letters" "ofPlace" "[Z") (List.mem_of_getElem? (i := 4) rfl)) (fun _ h9 => h9) rfl dX2_ask_53 ?_
          refine lv_iload_n hx hb dX2_ask_56 rfl (lv_at hl 1 rfl) ?_
          refine va_zald hx hb hK hP 3 3 rfl rfl (rg_in (n := 20) (rg_mono h_969 (by decide) (by decide))) dX2_ask_57 ?_
          refine lv_topi (fun x_1006 ex_1006 => ?_)
          have hx_1006 : rg (0) (1) x_1006 := by rw [ex_1006]; exact rg_mono (hg2 _) (by decide) (by decide)
          refine lv_if_eq (tgt := 86) hx hb dX2_ask_58 (by decide) (fun c_1007 => ?_) (fun c_1007 => ?_)
          · skip
            have h_1008 : rg (0) (0) x_1006 := by have ha := hx_1006; have hb_ := (rg_k (x := 0) (c := 0) (by decide)); simp only [rg, fa_lt, fa_le, fa_eq, (by decide : (0 : Int32).toInt = 0)] at ha hb_ c_1007; simp only [rg]; omega
            refine lv_iload hx hb dX2_ask_86 (lv_at hl 0 rfl) ?_
            refine lv_if_eq (tgt := 113) hx hb dX2_ask_88 (by decide) (fun cz => absurd cz (by decide)) (fun _ => ?_)
            refine lv_aload_n hx hb dX2_ask_91 rfl (lv_at hl 3 rfl) ?_
            refine lv_aload_n hx hb dX2_ask_92 rfl (lv_at hl 2 rfl) ?_
            refine va_get (D := (dC, dI)) (ci := 2) (v := .ref h1) (C := RX2) (T := TX2) (N := 8) hx hb hts hinX2 hown hK hP 0 rfl rfl 0 (by decide) (hts (.fieldLink RX2 11 "MayRings$Letters" "house" "[I") (List.mem_of_getElem? (i := 5) rfl)) (fun _ h9 => h9) rfl dX2_ask_93 ?_
            refine lv_iload_n hx hb dX2_ask_96 rfl (lv_at hl 1 rfl) ?_
            refine va_iald hx hb hK hP 1 1 rfl rfl (rg_in (n := 20) (rg_mono h_969 (by decide) (by decide))) dX2_ask_97 ?_
            refine lv_topi (fun x_1009 ex_1009 => ?_)
            have hx_1009 : rg (0) (8) x_1009 := by rw [ex_1009]; exact rg_mono (hg0 _) (by decide) (by decide)
            refine lv_aload_n hx hb dX2_ask_98 rfl (lv_at hl 2 rfl) ?_
            refine va_get (D := (dC, dI)) (ci := 2) (v := .ref h2) (C := RX2) (T := TX2) (N := 8) hx hb hts hinX2 hown hK hP 0 rfl rfl 1 (by decide) (hts (.fieldLink RX2 15 "MayRings$Letters" "where" "[I") (List.mem_of_getElem? (i := 6) rfl)) (fun _ h9 => h9) rfl dX2_ask_99 ?_
            refine lv_iload_n hx hb dX2_ask_102 rfl (lv_at hl 1 rfl) ?_
            refine va_iald hx hb hK hP 2 1 rfl rfl (rg_in (n := 20) (rg_mono h_969 (by decide) (by decide))) dX2_ask_103 ?_
            refine lv_topi (fun x_1010 ex_1010 => ?_)
            have hx_1010 : rg (0) (8) x_1010 := by rw [ex_1010]; exact rg_mono (hg1 _) (by decide) (by decide)
            refine lv_aload_n hx hb dX2_ask_104 rfl (lv_at hl 2 rfl) ?_
            refine va_get (D := (dC, dI)) (ci := 2) (v := .ref h4) (C := RX2) (T := TX2) (N := 8) hx hb hts hinX2 hown hK hP 0 rfl rfl 3 (by decide) (hts (.fieldLink RX2 22 "MayRings$Letters" "isSo" "[Z") (List.mem_of_getElem? (i := 7) rfl)) (fun _ h9 => h9) rfl dX2_ask_105 ?_
            refine lv_iload_n hx hb dX2_ask_108 rfl (lv_at hl 1 rfl) ?_
            refine va_zald hx hb hK hP 4 3 rfl rfl (rg_in (n := 20) (rg_mono h_969 (by decide) (by decide))) dX2_ask_109 ?_
            refine lv_topi (fun x_1011 ex_1011 => ?_)
            have hx_1011 : rg (0) (1) x_1011 := by rw [ex_1011]; exact rg_mono (hg3 _) (by decide) (by decide)
            have hPc := hP.sub (ws' := [(h7, .inr (7, [.ref h8, .ref h9, .ref h10, .ref h11, .ref h12, .ref h13, .int a2, .int a3, .int a4, .int a5, .int x_908, .int a7, .int a8, .int a9])), (h9, .inl (cI, 9, .inl f_906)), (h10, .inl (cI, 9, .inl f_907))]) [7, 9, 10] rfl
            have hDc := hD.sub (ws' := [(h7, .inr (7, [.ref h8, .ref h9, .ref h10, .ref h11, .ref h12, .ref h13, .int a2, .int a3, .int a4, .int a5, .int x_908, .int a7, .int a8, .int a9])), (h9, .inl (cI, 9, .inl f_906)), (h10, .inl (cI, 9, .inl f_907))]) [7, 9, 10] (by decide) rfl
            have hFc := va_free (wc := [(h7, .inr (7, [.ref h8, .ref h9, .ref h10, .ref h11, .ref h12, .ref h13, .int a2, .int a3, .int a4, .int a5, .int x_908, .int a7, .int a8, .int a9])), (h9, .inl (cI, 9, .inl f_906)), (h10, .inl (cI, 9, .inl f_907))]) hD hS hA [7, 9, 10] rfl
            refine va_callv (va_runV (As := [.int x_1009, .int x_1010, .int x_1011]) (rest := []) ⟨hx, hb, hml, hown, hts⟩ (c_s_X7_heedPair l dC dI cB cI cJ cZ cP h7 h8 h9 f_906 hf_906 h10 f_907 hf_907 h11 h12 h13 a2 (rg_mono ha2 (by decide) (by decide)) a3 a4 a5 x_908 (rg_mono hx_908 (by decide) (by decide)) a7 a8 a9 x_1009 (rg_mono hx_1009 (by decide) (by decide)) x_1010 (rg_mono hx_1010 (by decide) (by decide)) x_1011 (rg_mono hx_1011 (by decide) (by decide)) H.size) (cwV 3 hts (gd_V (List.mem_of_getElem? (i := 8) rfl) (List.mem_of_getElem? (i := 9) rfl) (List.mem_of_getElem? (i := 10) rfl) (List.mem_of_getElem? (i := 11) rfl) (gd_mono k_s_X7_heedPair (fun _ h => List.mem_cons_of_mem _ (List.mem_append_right _ (List.mem_append_right _ (List.mem_append_left _ h)))))) rfl rfl rfl (by decide +kernel) ⟨Nat.le_of_ble_eq_true rfl, Nat.le_of_ble_eq_true rfl⟩) ⟨fun a U g mk q => by obtain ⟨q0, q1, qP, qK, qD⟩ := q; exact ⟨q0, q1, qP, va_K.moved (u := U) (U := U.calling g mk a) (Vm.Alike.refl U.vm) qK, qD⟩, va_recv hK hPc (ci := 7) (q0 := 0) rfl rfl, fun U hU hW => ⟨rfl, by rw [hU], by rw [hU]; exact hPc, va_K.moved hW.alike hK, hDc.weaken (fun _ _ _ _ => trivial)⟩⟩ rfl rfl hl.1 rfl (lv_room (Nat.le_of_ble_eq_true rfl)) dX2_ask_110 ⟨Nat.le_of_ble_eq_true rfl, Nat.le_of_ble_eq_true rfl⟩) hS (fun q _ h => hFc q h) hFc (fun u t H1 locs ht hvm hw hB hz1 hk1 hS => ?_)
            obtain ⟨x_1013, f_1014, f_1015, hx_1013, hf_1014, hf_1015, hP1, hD1⟩ := hB
            rw [ht] at hP1
            obtain ⟨hP, hD⟩ := va_join (wr := [(h0, .inr (2, [.ref h1, .ref h2, .ref h3, .ref h4, .ref h5, .ref h6, .int a0, .int a1])), (h1, .inl (cI, 20, .inl g0)), (h2, .inl (cI, 20, .inl g1)), (h3, .inl (cZ, 20, .inl g2)), (h4, .inl (cZ, 20, .inl g3)), (h5, .inl (cI, 20, .inl g4)), (h6, .inl (cI, 20, .inl g5)), (h8, .inl (cI, 9, .inl f_909))]) (w1 := [(h7, .inr (7, [.ref h8, .ref h9, .ref h10, .ref h11, .ref h12, .ref h13, .int a2, .int a3, .int a4, .int a5, .int x_1013, .int a7, .int a8, .int a9])), (h9, .inl (cI, 9, .inl f_1014)), (h10, .inl (cI, 9, .inl f_1015))]) hP hD [7, 9, 10] [0, 1, 2, 3, 4, 5, 6, 8] rfl rfl (by decide) (by decide) hk1 hFc hP1 hD1
            generalize H1 = H at hP hS ⊢
            replace hP : va_P (dC, dI) vwCl [(h0, .inr (2, [.ref h1, .ref h2, .ref h3, .ref h4, .ref h5, .ref h6, .int a0, .int a1])), (h1, .inl (cI, 20, .inl g0)), (h2, .inl (cI, 20, .inl g1)), (h3, .inl (cZ, 20, .inl g2)), (h4, .inl (cZ, 20, .inl g3)), (h5, .inl (cI, 20, .inl g4)), (h6, .inl (cI, 20, .inl g5)), (h8, .inl (cI, 9, .inl f_909)), (h7, .inr (7, [.ref h8, .ref h9, .ref h10, .ref h11, .ref h12, .ref h13, .int a2, .int a3, .int a4, .int a5, .int x_1013, .int a7, .int a8, .int a9])), (h9, .inl (cI, 9, .inl f_1014)), (h10, .inl (cI, 9, .inl f_1015))] H := hP
            replace hD : va_D A [(h0, .inr (2, [.ref h1, .ref h2, .ref h3, .ref h4, .ref h5, .ref h6, .int a0, .int a1])), (h1, .inl (cI, 20, .inl g0)), (h2, .inl (cI, 20, .inl g1)), (h3, .inl (cZ, 20, .inl g2)), (h4, .inl (cZ, 20, .inl g3)), (h5, .inl (cI, 20, .inl g4)), (h6, .inl (cI, 20, .inl g5)), (h8, .inl (cI, 9, .inl f_909)), (h7, .inr (7, [.ref h8, .ref h9, .ref h10, .ref h11, .ref h12, .ref h13, .int a2, .int a3, .int a4, .int a5, .int x_1013, .int a7, .int a8, .int a9])), (h9, .inl (cI, 9, .inl f_1014)), (h10, .inl (cI, 9, .inl f_1015))] := hD
            obtain ⟨x_1016, ex_1016⟩ : ∃ y : Int32, y = x_905 + Int32.ofInt (1) := ⟨_, rfl⟩
            have hx_1016 : rg (1) (20) x_1016 := by rw [ex_1016]; exact rg_mono (rg_add h_969 (rg_k (x := Int32.ofInt (1)) (c := 1) (by decide)) (by decide) (by decide)) (by decide) (by decide)
            have qx_1016 : x_1016.toInt = x_905.toInt + (1) := by rw [ex_1016]; exact rg_addE h_969 (rg_k (x := Int32.ofInt (1)) (c := 1) (by decide)) (by decide) (by decide) (by decide)
            refine lv_iinc (v := x_1016) (lv' := [(3, .int x_1016), (4, .int 1), (0, .ref h0), (1, .ref h7), (2, .int p1)]) hx hb dX2_ask_113 hl (k := 1) rfl (ex_1016.symm) (by decide) rfl (fun ls hl => ?_)
            clear ex_1016
            refine lv_goto (tgt := 2) hx hb dX2_ask_116 (by decide) ?_
            exact ih_967 (x_1016, f_1014, f_1015, x_1013, f_909) H locs ls ⟨hP.sub (ws' := [(h0, .inr (2, [.ref h1, .ref h2, .ref h3, .ref h4, .ref h5, .ref h6, .int a0, .int a1])), (h1, .inl (cI, 20, .inl g0)), (h2, .inl (cI, 20, .inl g1)), (h3, .inl (cZ, 20, .inl g2)), (h4, .inl (cZ, 20, .inl g3)), (h5, .inl (cI, 20, .inl g4)), (h6, .inl (cI, 20, .inl g5)), (h7, .inr (7, [.ref h8, .ref h9, .ref h10, .ref h11, .ref h12, .ref h13, .int a2, .int a3, .int a4, .int a5, .int x_1013, .int a7, .int a8, .int a9])), (h8, .inl (cI, 9, .inl f_909)), (h9, .inl (cI, 9, .inl f_1014)), (h10, .inl (cI, 9, .inl f_1015))]) [0, 1, 2, 3, 4, 5, 6, 8, 7, 9, 10] rfl, hD.sub (ws' := [(h0, .inr (2, [.ref h1, .ref h2, .ref h3, .ref h4, .ref h5, .ref h6, .int a0, .int a1])), (h1, .inl (cI, 20, .inl g0)), (h2, .inl (cI, 20, .inl g1)), (h3, .inl (cZ, 20, .inl g2)), (h4, .inl (cZ, 20, .inl g3)), (h5, .inl (cI, 20, .inl g4)), (h6, .inl (cI, 20, .inl g5)), (h7, .inr (7, [.ref h8, .ref h9, .ref h10, .ref h11, .ref h12, .ref h13, .int a2, .int a3, .int a4, .int a5, .int x_1013, .int a7, .int a8, .int a9])), (h8, .inl (cI, 9, .inl f_909)), (h9, .inl (cI, 9, .inl f_1014)), (h10, .inl (cI, 9, .inl f_1015))]) [0, 1, 2, 3, 4, 5, 6, 8, 7, 9, 10] (by decide) rfl, hS, lv_sub hl [0, 2, 3, 4] rfl, (rg_mono hx_1016 (by decide) (by decide)), hf_1014, hf_1015, (rg_mono hx_1013 (by decide) (by decide)), hf_909⟩ (by show ((20) - x_1016.toInt).toNat < ((20) - x_905.toInt).toNat; have ha := h_969; simp only [rg] at ha; omega)
          · skip
            have h_1017 : rg (1) (1) x_1006 := by have ha := hx_1006; have hb_ := (rg_k (x := 0) (c := 0) (by decide)); simp only [rg, fa_lt, fa_le, fa_eq, (by decide : (0 : Int32).toInt = 0)] at ha hb_ c_1007; simp only [rg]; omega
            refine lv_aload_n hx hb dX2_ask_61 rfl (lv_at hl 3 rfl) ?_
            refine lv_aload_n hx hb dX2_ask_62 rfl (lv_at hl 2 rfl) ?_
            refine va_get (D := (dC, dI)) (ci := 2) (v := .ref h1) (C := RX2) (T := TX2) (N := 8) hx hb hts hinX2 hown hK hP 0 rfl rfl 0 (by decide) (hts (.fieldLink RX2 11 "MayRings$Letters" "house" "[I") (List.mem_of_getElem? (i := 5) rfl)) (fun _ h9 => h9) rfl dX2_ask_63 ?_
            refine lv_iload_n hx hb dX2_ask_66 rfl (lv_at hl 1 rfl) ?_
            refine va_iald hx hb hK hP 1 1 rfl rfl (rg_in (n := 20) (rg_mono h_969 (by decide) (by decide))) dX2_ask_67 ?_
            refine lv_topi (fun x_1018 ex_1018 => ?_)
            have hx_1018 : rg (0) (8) x_1018 := by rw [ex_1018]; exact rg_mono (hg0 _) (by decide) (by decide)
            refine lv_aload_n hx hb dX2_ask_68 rfl (lv_at hl 2 rfl) ?_
            refine va_get (D := (dC, dI)) (ci := 2) (v := .ref h2) (C := RX2) (T := TX2) (N := 8) hx hb hts hinX2 hown hK hP 0 rfl rfl 1 (by decide) (hts (.fieldLink RX2 15 "MayRings$Letters" "where" "[I") (List.mem_of_getElem? (i := 6) rfl)) (fun _ h9 => h9) rfl dX2_ask_69 ?_
            refine lv_iload_n hx hb dX2_ask_72 rfl (lv_at hl 1 rfl) ?_
            refine va_iald hx hb hK hP 2 1 rfl rfl (rg_in (n := 20) (rg_mono h_969 (by decide) (by decide))) dX2_ask_73 ?_
            refine lv_topi (fun x_1019 ex_1019 => ?_)
            have hx_1019 : rg (0) (8) x_1019 := by rw [ex_1019]; exact rg_mono (hg1 _) (by decide) (by decide)
            refine lv_aload_n hx hb dX2_ask_74 rfl (lv_at hl 2 rfl) ?_
            refine va_get (D := (dC, dI)) (ci := 2) (v := .ref h4) (C := RX2) (T := TX2) (N := 8) hx hb hts hinX2 hown hK hP 0 rfl rfl 3 (by decide) (hts (.fieldLink RX2 22 "MayRings$Letters" "isSo" "[Z") (List.mem_of_getElem? (i := 7) rfl)) (fun _ h9 => h9) rfl dX2_ask_75 ?_
            refine lv_iload_n hx hb dX2_ask_78 rfl (lv_at hl 1 rfl) ?_
            refine va_zald hx hb hK hP 4 3 rfl rfl (rg_in (n := 20) (rg_mono h_969 (by decide) (by decide))) dX2_ask_79 ?_
            refine lv_topi (fun x_1020 ex_1020 => ?_)
            have hx_1020 : rg (0) (1) x_1020 := by rw [ex_1020]; exact rg_mono (hg3 _) (by decide) (by decide)
            have hPc := hP.sub (ws' := [(h7, .inr (7, [.ref h8, .ref h9, .ref h10, .ref h11, .ref h12, .ref h13, .int a2, .int a3, .int a4, .int a5, .int x_908, .int a7, .int a8, .int a9])), (h8, .inl (cI, 9, .inl f_909))]) [7, 8] rfl
            have hDc := hD.sub (ws' := [(h7, .inr (7, [.ref h8, .ref h9, .ref h10, .ref h11, .ref h12, .ref h13, .int a2, .int a3, .int a4, .int a5, .int x_908, .int a7, .int a8, .int a9])), (h8, .inl (cI, 9, .inl f_909))]) [7, 8] (by decide) rfl
            have hFc := va_free (wc := [(h7, .inr (7, [.ref h8, .ref h9, .ref h10, .ref h11, .ref h12, .ref h13, .int a2, .int a3, .int a4, .int a5, .int x_908, .int a7, .int a8, .int a9])), (h8, .inl (cI, 9, .inl f_909))]) hD hS hA [7, 8] rfl
            refine va_callv (va_runV (As := [.int x_1018, .int x_1019, .int x_1020]) (rest := []) ⟨hx, hb, hml, hown, hts⟩ (c_s_X7_heedPlace l dC dI cB cI cJ cZ cP h7 h8 f_909 hf_909 h9 h10 h11 h12 h13 a2 (rg_mono ha2 (by decide) (by decide)) a3 (rg_mono ha3 (by decide) (by decide)) a4 a5 x_908 (rg_mono hx_908 (by decide) (by decide)) a7 a8 a9 x_1018 (rg_mono hx_1018 (by decide) (by decide)) x_1019 (rg_mono hx_1019 (by decide) (by decide)) x_1020 (rg_mono hx_1020 (by decide) (by decide)) H.size) (cwV 3 hts (gd_V (List.mem_of_getElem? (i := 12) rfl) (List.mem_of_getElem? (i := 13) rfl) (List.mem_of_getElem? (i := 14) rfl) (List.mem_of_getElem? (i := 11) rfl) (gd_mono k_s_X7_heedPlace (fun _ h => List.mem_cons_of_mem _ (List.mem_append_right _ (List.mem_append_right _ (List.mem_append_right _ (List.mem_append_left _ h))))))) rfl rfl rfl (by decide +kernel) ⟨Nat.le_of_ble_eq_true rfl, Nat.le_of_ble_eq_true rfl⟩) ⟨fun a U g mk q => by obtain ⟨q0, q1, qP, qK, qD⟩ := q; exact ⟨q0, q1, qP, va_K.moved (u := U) (U := U.calling g mk a) (Vm.Alike.refl U.vm) qK, qD⟩, va_recv hK hPc (ci := 7) (q0 := 0) rfl rfl, fun U hU hW => ⟨rfl, by rw [hU], by rw [hU]; exact hPc, va_K.moved hW.alike hK, hDc.weaken (fun _ _ _ _ => trivial)⟩⟩ rfl rfl hl.1 rfl (lv_room (Nat.le_of_ble_eq_true rfl)) dX2_ask_80 ⟨Nat.le_of_ble_eq_true rfl, Nat.le_of_ble_eq_true rfl⟩) hS (fun q _ h => hFc q h) hFc (fun u t H1 locs ht hvm hw hB hz1 hk1 hS => ?_)
            obtain ⟨x_1022, f_1023, hx_1022, hf_1023, hP1, hD1⟩ := hB
            rw [ht] at hP1
            obtain ⟨hP, hD⟩ := va_join (wr := [(h0, .inr (2, [.ref h1, .ref h2, .ref h3, .ref h4, .ref h5, .ref h6, .int a0, .int a1])), (h1, .inl (cI, 20, .inl g0)), (h2, .inl (cI, 20, .inl g1)), (h3, .inl (cZ, 20, .inl g2)), (h4, .inl (cZ, 20, .inl g3)), (h5, .inl (cI, 20, .inl g4)), (h6, .inl (cI, 20, .inl g5)), (h9, .inl (cI, 9, .inl f_906)), (h10, .inl (cI, 9, .inl f_907))]) (w1 := [(h7, .inr (7, [.ref h8, .ref h9, .ref h10, .ref h11, .ref h12, .ref h13, .int a2, .int a3, .int a4, .int a5, .int x_1022, .int a7, .int a8, .int a9])), (h8, .inl (cI, 9, .inl f_1023))]) hP hD [7, 8] [0, 1, 2, 3, 4, 5, 6, 9, 10] rfl rfl (by decide) (by decide) hk1 hFc hP1 hD1
            generalize H1 = H at hP hS ⊢
            replace hP : va_P (dC, dI) vwCl [(h0, .inr (2, [.ref h1, .ref h2, .ref h3, .ref h4, .ref h5, .ref h6, .int a0, .int a1])), (h1, .inl (cI, 20, .inl g0)), (h2, .inl (cI, 20, .inl g1)), (h3, .inl (cZ, 20, .inl g2)), (h4, .inl (cZ, 20, .inl g3)), (h5, .inl (cI, 20, .inl g4)), (h6, .inl (cI, 20, .inl g5)), (h9, .inl (cI, 9, .inl f_906)), (h10, .inl (cI, 9, .inl f_907)), (h7, .inr (7, [.ref h8, .ref h9, .ref h10, .ref h11, .ref h12, .ref h13, .int a2, .int a3, .int a4, .int a5, .int x_1022, .int a7, .int a8, .int a9])), (h8, .inl (cI, 9, .inl f_1023))] H := hP
            replace hD : va_D A [(h0, .inr (2, [.ref h1, .ref h2, .ref h3, .ref h4, .ref h5, .ref h6, .int a0, .int a1])), (h1, .inl (cI, 20, .inl g0)), (h2, .inl (cI, 20, .inl g1)), (h3, .inl (cZ, 20, .inl g2)), (h4, .inl (cZ, 20, .inl g3)), (h5, .inl (cI, 20, .inl g4)), (h6, .inl (cI, 20, .inl g5)), (h9, .inl (cI, 9, .inl f_906)), (h10, .inl (cI, 9, .inl f_907)), (h7, .inr (7, [.ref h8, .ref h9, .ref h10, .ref h11, .ref h12, .ref h13, .int a2, .int a3, .int a4, .int a5, .int x_1022, .int a7, .int a8, .int a9])), (h8, .inl (cI, 9, .inl f_1023))] := hD
            refine lv_goto (tgt := 113) hx hb dX2_ask_83 (by decide) ?_
            obtain ⟨x_1024, ex_1024⟩ : ∃ y : Int32, y = x_905 + Int32.ofInt (1) := ⟨_, rfl⟩
            have hx_1024 : rg (1) (20) x_1024 := by rw [ex_1024]; exact rg_mono (rg_add h_969 (rg_k (x := Int32.ofInt (1)) (c := 1) (by decide)) (by decide) (by decide)) (by decide) (by decide)
            have qx_1024 : x_1024.toInt = x_905.toInt + (1) := by rw [ex_1024]; exact rg_addE h_969 (rg_k (x := Int32.ofInt (1)) (c := 1) (by decide)) (by decide) (by decide) (by decide)
            refine lv_iinc (v := x_1024) (lv' := [(3, .int x_1024), (4, .int 1), (0, .ref h0), (1, .ref h7), (2, .int p1)]) hx hb dX2_ask_113 hl (k := 1) rfl (ex_1024.symm) (by decide) rfl (fun ls hl => ?_)
            clear ex_1024
            refine lv_goto (tgt := 2) hx hb dX2_ask_116 (by decide) ?_
            exact ih_967 (x_1024, f_906, f_907, x_1022, f_1023) H locs ls ⟨hP.sub (ws' := [(h0, .inr (2, [.ref h1, .ref h2, .ref h3, .ref h4, .ref h5, .ref h6, .int a0, .int a1])), (h1, .inl (cI, 20, .inl g0)), (h2, .inl (cI, 20, .inl g1)), (h3, .inl (cZ, 20, .inl g2)), (h4, .inl (cZ, 20, .inl g3)), (h5, .inl (cI, 20, .inl g4)), (h6, .inl (cI, 20, .inl g5)), (h7, .inr (7, [.ref h8, .ref h9, .ref h10, .ref h11, .ref h12, .ref h13, .int a2, .int a3, .int a4, .int a5, .int x_1022, .int a7, .int a8, .int a9])), (h8, .inl (cI, 9, .inl f_1023)), (h9, .inl (cI, 9, .inl f_906)), (h10, .inl (cI, 9, .inl f_907))]) [0, 1, 2, 3, 4, 5, 6, 9, 10, 7, 8] rfl, hD.sub (ws' := [(h0, .inr (2, [.ref h1, .ref h2, .ref h3, .ref h4, .ref h5, .ref h6, .int a0, .int a1])), (h1, .inl (cI, 20, .inl g0)), (h2, .inl (cI, 20, .inl g1)), (h3, .inl (cZ, 20, .inl g2)), (h4, .inl (cZ, 20, .inl g3)), (h5, .inl (cI, 20, .inl g4)), (h6, .inl (cI, 20, .inl g5)), (h7, .inr (7, [.ref h8, .ref h9, .ref h10, .ref h11, .ref h12, .ref h13, .int a2, .int a3, .int a4, .int a5, .int x_1022, .int a7, .int a8, .int a9])), (h8, .inl (cI, 9, .inl f_1023)), (h9, .inl (cI, 9, .inl f_906)), (h10, .inl (cI, 9, .inl f_907))]) [0, 1, 2, 3, 4, 5, 6, 9, 10, 7, 8] (by decide) rfl, hS, lv_sub hl [0, 2, 3, 4] rfl, (rg_mono hx_1024 (by decide) (by decide)), hf_906, hf_907, (rg_mono hx_1022 (by decide) (by decide)), hf_1023⟩ (by show ((20) - x_1024.toInt).toNat < ((20) - x_905.toInt).toNat; have ha := h_969; simp only [rg] at ha; omega)
def v_s_X2_drop : List Cond := Cond.code yX2_drop cX2_drop 2 (some .boolean) :: ([Cond.fieldLink RX2 31 "MayRings$Letters" "count" "I", Cond.fieldLink RX2 28 "MayRings$Letters" "untoldAt" "[I", Cond.fieldLink RX2 35 "MayRings$Letters" "time" "I"] ++ (wsX20 ++ ([])))
theorem k_s_X2_drop : GoodIn lw_tbl v_s_X2_drop := gd_c (List.mem_of_getElem? (i := 1165) (by decide +kernel)) rfl (goodIn_app (gd_c (List.mem_of_getElem? (i := 410) (by decide +kernel)) rfl (gd_c (List.mem_of_getElem? (i := 409) (by decide +kernel)) rfl (gd_c (List.mem_of_getElem? (i := 412) (by decide +kernel)) rfl (gd_nil)))) (goodIn_app kfX2 (gd_nil)))
set_option maxHeartbeats 2000000 in
set_option maxRecDepth 100000 in
theorem c_s_X2_drop (l : Launch) (dC : Nat → ClassId) (dI : Nat → Nat → Nat) (cB cI cJ cZ cP : ClassId) (h0 : Nat) (h1 : Nat) (h2 : Nat) (h3 : Nat) (h4 : Nat) (h5 : Nat) (h6 : Nat) (g5 : Nat → Int32) (a0 : Int32) (ha0 : rg (0) (20) a0) (a1 : Int32) (p0 : Int32) (sz : Nat) : Met l yX2_drop v_s_X2_drop ({ frames := 0, cells := 0, slots := 0, locals := 0 }) (va_Pc [.ref h0, .int p0] (fun U => U.heap.size = sz ∧ va_P (dC, dI) vwCl [(h0, .inr (2, [.ref h1, .ref h2, .ref h3, .ref h4, .ref h5, .ref h6, .int a0, .int a1])), (h6, .inl (cI, 20, .inl g5))] U.heap ∧ va_K (dC, dI) vwCl (ty5 cB cI cJ cZ cP) U ∧ va_D (fun _ => True) [(h0, .inr (2, [.ref h1, .ref h2, .ref h3, .ref h4, .ref h5, .ref h6, .int a0, .int a1])), (h6, .inl (cI, 20, .inl g5))])) (va_Qi (fun (r : Int32) (u9 : Unit) => rg (0) (1) r) (fun u9 t => ∃ (z0 : Nat → Int32), va_P (dC, dI) vwCl [(h0, .inr (2, [.ref h1, .ref h2, .ref h3, .ref h4, .ref h5, .ref h6, .int a0, .int a1])), (h6, .inl (cI, 20, .inl z0))] t.heap ∧ va_D (va_A [(h0, .inr (2, [.ref h1, .ref h2, .ref h3, .ref h4, .ref h5, .ref h6, .int a0, .int a1])), (h6, .inl (cI, 20, .inl g5))] sz) [(h0, .inr (2, [.ref h1, .ref h2, .ref h3, .ref h4, .ref h5, .ref h6, .int a0, .int a1])), (h6, .inl (cI, 20, .inl z0))]) (va_A [(h0, .inr (2, [.ref h1, .ref h2, .ref h3, .ref h4, .ref h5, .ref h6, .int a0, .int a1])), (h6, .inl (cI, 20, .inl g5))] sz)) 0 0 (va_A [(h0, .inr (2, [.ref h1, .ref h2, .ref h3, .ref h4, .ref h5, .ref h6, .int a0, .int a1])), (h6, .inl (cI, 20, .inl g5))] sz) := by
  refine Met.ofW (cc := cX2_drop) (maxL := 2) (ret := (some .boolean)) (by decide) rfl ?_
  intro p e s m args below meth c s₁ B hml hv
  obtain ⟨rfl, hsz, hP, hK, hD0⟩ := hv
  have hx := B.exec
  have hb := B.bytes
  have hr := B.returns
  have hts := atoms_spec (ws := v_s_X2_drop) B.pre
  have hown : s.vm.findClass RX2 = some m.cls := findClass_of_methodNamed B.named
  have hlocks := B.notSynchronized
  have hinX2 : ∀ w ∈ wsX20, w ∈ v_s_X2_drop := fun _ h => List.mem_cons_of_mem _ (List.mem_append_right _ (List.mem_append_left _ h))
  subst hsz
  have hD := hD0.self (sz := s.heap.size)
  generalize hAe : va_A [(h0, .inr (2, [.ref h1, .ref h2, .ref h3, .ref h4, .ref h5, .ref h6, .int a0, .int a1])), (h6, .inl (cI, 20, .inl g5))] s.heap.size = A at hD ⊢
  have hA : ∀ q : Nat, s.heap.size ≤ q → A q := fun q h => by rw [← hAe]; exact Or.inr h
  have hP : va_P (dC, dI) vwCl [(h0, .inr (2, [.ref h1, .ref h2, .ref h3, .ref h4, .ref h5, .ref h6, .int a0, .int a1])), (h6, .inl (cI, 20, .inl g5))] s.heap := hP
  have hl := lv_entry ([.ref h0, .int p0]) (n := 2) (Nat.le_of_ble_eq_true rfl)
  rw [lg_entry_eq]
  generalize (lg_sl ([.ref h0, .int p0]) ++ List.replicate (2 - (lg_sl ([.ref h0, .int p0])).length) Slot.unset).toArray = ls at hl ⊢
  have hl : lv_has ls 2 [(0, .ref h0), (1, .int p0)] := hl
  refine W_gen (A := A) hP (fun H locs hP hS => ?_)
  refine lv_iload_n hx hb dX2_drop_0 rfl (lv_at hl 1 rfl) ?_
  refine lv_if_lt (tgt := 22) hx hb dX2_drop_1 (by decide) (fun c_1 => ?_) (fun c_1 => ?_)
  · skip
    have h_2 : rg (-2147483648) (-1) p0 := by have ha := (rg_any p0); have hb_ := (rg_k (x := 0) (c := 0) (by decide)); simp only [rg, fa_lt, fa_le, fa_eq, (by decide : (0 : Int32).toInt = 0)] at ha hb_ c_1; simp only [rg]; omega
    refine lv_iconst (v := 0) hx hb dX2_drop_22 (by decide) ?_
    have hP9 := hP.sub (ws' := [(h0, .inr (2, [.ref h1, .ref h2, .ref h3, .ref h4, .ref h5, .ref h6, .int a0, .int a1])), (h6, .inl (cI, 20, .inl g5))]) [0, 1] rfl
    have hD9 := hD.sub (ws' := [(h0, .inr (2, [.ref h1, .ref h2, .ref h3, .ref h4, .ref h5, .ref h6, .int a0, .int a1])), (h6, .inl (cI, 20, .inl g5))]) [0, 1] (by decide) rfl
    exact W.zret (v := 0) hx hb hr (rfl) (fun t ht hW => ⟨⟨0, (), rfl, (rg_mono (rg_k (x := 0) (c := 0) (by decide)) (by decide) (by decide)), ⟨g5, by rw [ht]; exact hP9, hD9⟩⟩, hS.F ht⟩) hS.2.2 dX2_drop_23
  · skip
    have h_3 : rg (0) (2147483647) p0 := by have ha := (rg_any p0); have hb_ := (rg_k (x := 0) (c := 0) (by decide)); simp only [rg, fa_lt, fa_le, fa_eq, (by decide : (0 : Int32).toInt = 0)] at ha hb_ c_1; simp only [rg]; omega
    refine lv_iload_n hx hb dX2_drop_4 rfl (lv_at hl 1 rfl) ?_
    refine lv_aload_n hx hb dX2_drop_5 rfl (lv_at hl 0 rfl) ?_
    refine va_get (D := (dC, dI)) (ci := 2) (v := .int a0) (C := RX2) (T := TX2) (N := 8) hx hb hts hinX2 hown hK hP 0 rfl rfl 6 (by decide) (hts (.fieldLink RX2 31 "MayRings$Letters" "count" "I") (List.mem_of_getElem? (i := 1) rfl)) (fun _ h9 => h9) rfl dX2_drop_6 ?_
    refine lv_icmp_ge (tgt := 22) hx hb dX2_drop_9 (by decide) (fun c_4 => ?_) (fun c_4 => ?_)
    · skip
      refine lv_iconst (v := 0) hx hb dX2_drop_22 (by decide) ?_
      have hP9 := hP.sub (ws' := [(h0, .inr (2, [.ref h1, .ref h2, .ref h3, .ref h4, .ref h5, .ref h6, .int a0, .int a1])), (h6, .inl (cI, 20, .inl g5))]) [0, 1] rfl
      have hD9 := hD.sub (ws' := [(h0, .inr (2, [.ref h1, .ref h2, .ref h3, .ref h4, .ref h5, .ref h6, .int a0, .int a1])), (h6, .inl (cI, 20, .inl g5))]) [0, 1] (by decide) rfl
      exact W.zret (v := 0) hx hb hr (rfl) (fun t ht hW => ⟨⟨0, (), rfl, (rg_mono (rg_k (x := 0) (c := 0) (by decide)) (by decide) (by decide)), ⟨g5, by rw [ht]; exact hP9, hD9⟩⟩, hS.F ht⟩) hS.2.2 dX2_drop_23
    · skip
      have h_5 : rg (0) (19) p0 := by have ha := h_3; have hb_ := ha0; simp only [rg, fa_lt, fa_le, fa_eq] at ha hb_ c_4; simp only [rg]; omega
      have h_6 : rg (1) (20) a0 := by have ha := h_5; have hb_ := ha0; have hc_ := c_4; simp only [rg, fa_lt, fa_le, fa_eq] at ha hb_ hc_; simp only [rg]; omega
      have h_7 : rg (1) (20) a0 := by have ha := h_3; have hb_ := ha0; simp only [rg, fa_lt, fa_le, fa_eq] at ha hb_ c_4; simp only [rg]; omega
      refine lv_aload_n hx hb dX2_drop_12 rfl (lv_at hl 0 rfl) ?_
      refine va_get (D := (dC, dI)) (ci := 2) (v := .ref h6) (C := RX2) (T := TX2) (N := 8) hx hb hts hinX2 hown hK hP 0 rfl rfl 5 (by decide) (hts (.fieldLink RX2 28 "MayRings$Letters" "untoldAt" "[I") (List.mem_of_getElem? (i := 2) rfl)) (fun _ h9 => h9) rfl dX2_drop_13 ?_
      refine lv_iload_n hx hb dX2_drop_16 rfl (lv_at hl 1 rfl) ?_
      refine va_iald hx hb hK hP 1 1 rfl rfl (rg_in (n := 20) (rg_mono h_5 (by decide) (by decide))) dX2_drop_17 ?_
      refine lv_topi (fun x_8 ex_8 => ?_)
      refine lv_iconst (v := (-1)) hx hb dX2_drop_18 (by decide) ?_
      refine lv_icmp_eq (tgt := 24) hx hb dX2_drop_19 (by decide) (fun c_9 => ?_) (fun c_9 => ?_)
      · skip
        have h_10 : rg (-1) (-1) x_8 := by have ha := (rg_any x_8); have hb_ := (rg_k (x := (-1)) (c := -1) (by decide)); simp only [rg, fa_lt, fa_le, fa_eq, (by decide : ((-1) : Int32).toInt = -1)] at ha hb_ c_9; simp only [rg]; omega
        refine lv_aload_n hx hb dX2_drop_24 rfl (lv_at hl 0 rfl) ?_
        refine va_get (D := (dC, dI)) (ci := 2) (v := .ref h6) (C := RX2) (T := TX2) (N := 8) hx hb hts hinX2 hown hK hP 0 rfl rfl 5 (by decide) (hts (.fieldLink RX2 28 "MayRings$Letters" "untoldAt" "[I") (List.mem_of_getElem? (i := 2) rfl)) (fun _ h9 => h9) rfl dX2_drop_25 ?_
        refine lv_iload_n hx hb dX2_drop_28 rfl (lv_at hl 1 rfl) ?_
        refine lv_aload_n hx hb dX2_drop_29 rfl (lv_at hl 0 rfl) ?_
        refine va_get (D := (dC, dI)) (ci := 2) (v := .int a1) (C := RX2) (T := TX2) (N := 8) hx hb hts hinX2 hown hK hP 0 rfl rfl 7 (by decide) (hts (.fieldLink RX2 35 "MayRings$Letters" "time" "I") (List.mem_of_getElem? (i := 3) rfl)) (fun _ h9 => h9) rfl dX2_drop_30 ?_
        refine va_iast hx hb hK hP hD hS 1 1 rfl rfl (rg_in (n := 20) (rg_mono h_5 (by decide) (by decide))) dX2_drop_33 (fun H locs hP hD hS => ?_)
        obtain ⟨f_11, ef_11⟩ : ∃ f : Nat → Int32, f = upd g5 (p0 : Int32).toNatClampNeg a1 := ⟨_, rfl⟩
        rw [← ef_11] at hP hD
        clear ef_11
        replace hP : va_P (dC, dI) vwCl [(h0, .inr (2, [.ref h1, .ref h2, .ref h3, .ref h4, .ref h5, .ref h6, .int a0, .int a1])), (h6, .inl (cI, 20, .inl f_11))] H := hP
        replace hD : va_D A [(h0, .inr (2, [.ref h1, .ref h2, .ref h3, .ref h4, .ref h5, .ref h6, .int a0, .int a1])), (h6, .inl (cI, 20, .inl f_11))] := hD
        refine lv_iconst (v := 1) hx hb dX2_drop_34 (by decide) ?_
        have hP9 := hP.sub (ws' := [(h0, .inr (2, [.ref h1, .ref h2, .ref h3, .ref h4, .ref h5, .ref h6, .int a0, .int a1])), (h6, .inl (cI, 20, .inl f_11))]) [0, 1] rfl
        have hD9 := hD.sub (ws' := [(h0, .inr (2, [.ref h1, .ref h2, .ref h3, .ref h4, .ref h5, .ref h6, .int a0, .int a1])), (h6, .inl (cI, 20, .inl f_11))]) [0, 1] (by decide) rfl
        exact W.zret (v := 1) hx hb hr (rfl) (fun t ht hW => ⟨⟨1, (), rfl, (rg_mono (rg_k (x := 1) (c := 1) (by decide)) (by decide) (by decide)), ⟨f_11, by rw [ht]; exact hP9, hD9⟩⟩, hS.F ht⟩) hS.2.2 dX2_drop_35
      · skip
        refine lv_iconst (v := 0) hx hb dX2_drop_22 (by decide) ?_
        have hP9 := hP.sub (ws' := [(h0, .inr (2, [.ref h1, .ref h2, .ref h3, .ref h4, .ref h5, .ref h6, .int a0, .int a1])), (h6, .inl (cI, 20, .inl g5))]) [0, 1] rfl
        have hD9 := hD.sub (ws' := [(h0, .inr (2, [.ref h1, .ref h2, .ref h3, .ref h4, .ref h5, .ref h6, .int a0, .int a1])), (h6, .inl (cI, 20, .inl g5))]) [0, 1] (by decide) rfl
        exact W.zret (v := 0) hx hb hr (rfl) (fun t ht hW => ⟨⟨0, (), rfl, (rg_mono (rg_k (x := 0) (c := 0) (by decide)) (by decide) (by decide)), ⟨g5, by rw [ht]; exact hP9, hD9⟩⟩, hS.F ht⟩) hS.2.2 dX2_drop_23
def v_s_X3_copy : List Cond := Cond.code yX3_copy cX3_copy 2 none :: ([Cond.fieldLink RX3 9 "MayRings$Order" "houses" "[I", Cond.methodLink RX3 19 arraycopyName, Cond.native arraycopyName, Cond.static arraycopyName, Cond.initialized RJ10, Cond.fieldLink RX3 15 "MayRings$Order" "size" "I"] ++ (wsX30 ++ ([])))
theorem k_s_X3_copy : GoodIn lw_tbl v_s_X3_copy := gd_c (List.mem_of_getElem? (i := 1126) (by decide +kernel)) rfl (goodIn_app (gd_c (List.mem_of_getElem? (i := 360) (by decide +kernel)) rfl (gd_c (List.mem_of_getElem? (i := 1127) (by decide +kernel)) rfl (gd_c (List.mem_of_getElem? (i := 1129) (by decide +kernel)) rfl (gd_c (List.mem_of_getElem? (i := 1128) (by decide +kernel)) rfl (gd_c (List.mem_of_getElem? (i := 148) (by decide +kernel)) rfl (gd_c (List.mem_of_getElem? (i := 363) (by decide +kernel)) rfl (gd_nil))))))) (goodIn_app kfX3 (gd_nil)))
set_option maxHeartbeats 2000000 in
set_option maxRecDepth 100000 in
theorem c_s_X3_copy (l : Launch) (dC : Nat → ClassId) (dI : Nat → Nat → Nat) (cB cI cJ cZ cP : ClassId) (h0 : Nat) (h1 : Nat) (g0 : Nat → Int32) (hg0 : rgA (0) (8) g0) (a0 : Int32) (h2 : Nat) (h3 : Nat) (g1 : Nat → Int32) (hg1 : rgA (0) (8) g1) (a1 : Int32) (sz : Nat) : Met l yX3_copy v_s_X3_copy ({ frames := 1, cells := 0, slots := 0, locals := 80 }) (va_Pc [.ref h0, .ref h2] (fun U => U.heap.size = sz ∧ va_P (dC, dI) vwCl [(h0, .inr (3, [.ref h1, .int a0])), (h1, .inl (cI, 9, .inl g0)), (h2, .inr (3, [.ref h3, .int a1])), (h3, .inl (cI, 9, .inl g1))] U.heap ∧ va_K (dC, dI) vwCl (ty5 cB cI cJ cZ cP) U ∧ va_D (fun _ => True) [(h0, .inr (3, [.ref h1, .int a0])), (h1, .inl (cI, 9, .inl g0)), (h2, .inr (3, [.ref h3, .int a1])), (h3, .inl (cI, 9, .inl g1))])) (va_Qv (fun _ : Unit => True) (fun _ t => ∃ (z0 : Nat → Int32), rgA (0) (8) z0 ∧ va_P (dC, dI) vwCl [(h0, .inr (3, [.ref h1, .int a1])), (h1, .inl (cI, 9, .inl z0)), (h2, .inr (3, [.ref h3, .int a1])), (h3, .inl (cI, 9, .inl g1))] t.heap ∧ va_D (va_A [(h0, .inr (3, [.ref h1, .int a0])), (h1, .inl (cI, 9, .inl g0)), (h2, .inr (3, [.ref h3, .int a1])), (h3, .inl (cI, 9, .inl g1))] sz) [(h0, .inr (3, [.ref h1, .int a1])), (h1, .inl (cI, 9, .inl z0)), (h2, .inr (3, [.ref h3, .int a1])), (h3, .inl (cI, 9, .inl g1))]) (va_A [(h0, .inr (3, [.ref h1, .int a0])), (h1, .inl (cI, 9, .inl g0)), (h2, .inr (3, [.ref h3, .int a1])), (h3, .inl (cI, 9, .inl g1))] sz)) 0 0 (va_A [(h0, .inr (3, [.ref h1, .int a0])), (h1, .inl (cI, 9, .inl g0)), (h2, .inr (3, [.ref h3, .int a1])), (h3, .inl (cI, 9, .inl g1))] sz) := by
  refine Met.ofW (cc := cX3_copy) (maxL := 2) (ret := none) (by decide) rfl ?_
  intro p e s m args below meth c s₁ B hml hv
  obtain ⟨rfl, hsz, hP, hK, hD0⟩ := hv
  have hx := B.exec
  have hb := B.bytes
  have hr := B.returns
  have hts := atoms_spec (ws := v_s_X3_copy) B.pre
  have hown : s.vm.findClass RX3 = some m.cls := findClass_of_methodNamed B.named
  have hlocks := B.notSynchronized
  have hinX3 : ∀ w ∈ wsX30, w ∈ v_s_X3_copy := fun _ h => List.mem_cons_of_mem _ (List.mem_append_right _ (List.mem_append_left _ h))
  subst hsz
  have hD := hD0.self (sz := s.heap.size)
  generalize hAe : va_A [(h0, .inr (3, [.ref h1, .int a0])), (h1, .inl (cI, 9, .inl g0)), (h2, .inr (3, [.ref h3, .int a1])), (h3, .inl (cI, 9, .inl g1))] s.heap.size = A at hD ⊢
  have hA : ∀ q : Nat, s.heap.size ≤ q → A q := fun q h => by rw [← hAe]; exact Or.inr h
  have hP : va_P (dC, dI) vwCl [(h0, .inr (3, [.ref h1, .int a0])), (h1, .inl (cI, 9, .inl g0)), (h2, .inr (3, [.ref h3, .int a1])), (h3, .inl (cI, 9, .inl g1))] s.heap := hP
  have hl := lv_entry ([.ref h0, .ref h2]) (n := 2) (Nat.le_of_ble_eq_true rfl)
  rw [lg_entry_eq]
  generalize (lg_sl ([.ref h0, .ref h2]) ++ List.replicate (2 - (lg_sl ([.ref h0, .ref h2])).length) Slot.unset).toArray = ls at hl ⊢
  have hl : lv_has ls 2 [(0, .ref h0), (1, .ref h2)] := hl
  refine W_gen (A := A) hP (fun H locs hP hS => ?_)
  refine lv_aload_n hx hb dX3_copy_0 rfl (lv_at hl 1 rfl) ?_
  refine va_get (D := (dC, dI)) (ci := 3) (v := .ref h3) (C := RX3) (T := TX3) (N := 2) hx hb hts hinX3 hown hK hP 2 rfl rfl 0 (by decide) (hts (.fieldLink RX3 9 "MayRings$Order" "houses" "[I") (List.mem_of_getElem? (i := 1) rfl)) (fun _ h9 => h9) rfl dX3_copy_1 ?_
  refine lv_iconst (v := 0) hx hb dX3_copy_4 (by decide) ?_
  refine lv_aload_n hx hb dX3_copy_5 rfl (lv_at hl 0 rfl) ?_
  refine va_get (D := (dC, dI)) (ci := 3) (v := .ref h1) (C := RX3) (T := TX3) (N := 2) hx hb hts hinX3 hown hK hP 0 rfl rfl 0 (by decide) (hts (.fieldLink RX3 9 "MayRings$Order" "houses" "[I") (List.mem_of_getElem? (i := 1) rfl)) (fun _ h9 => h9) rfl dX3_copy_6 ?_
  refine lv_iconst (v := 0) hx hb dX3_copy_9 (by decide) ?_
  refine lv_bipush (v := 9) hx hb dX3_copy_10 (by decide) ?_
  refine va_copyi hx hb (by rw [hml]; exact hl.1.symm) hown (hts (.methodLink RX3 19 arraycopyName) (List.mem_of_getElem? (i := 2) rfl)) (hts (.native arraycopyName) (List.mem_of_getElem? (i := 3) rfl)) (hts (.static arraycopyName) (List.mem_of_getElem? (i := 4) rfl)) (hts (.initialized RJ10) (List.mem_of_getElem? (i := 5) rfl)) hK hP hD hS 3 1 1 1 rfl rfl rfl rfl rfl (by decide) (by decide) (by decide) (by decide) (by decide) (fun _ _ => rfl) (Nat.le_of_ble_eq_true rfl) (Nat.le_of_ble_eq_true rfl) dX3_copy_12 (fun H locs hP hD hS => ?_)
  obtain ⟨f_1, ef_1⟩ : ∃ f : Nat → Int32, f = va_cpy g1 g0 (0 : Int32).toNatClampNeg (0 : Int32).toNatClampNeg (9 : Int32).toNatClampNeg := ⟨_, rfl⟩
  rw [← ef_1] at hP hD
  have hf_1 : rgA (0) (8) f_1 := by rw [ef_1]; exact rgA_cpy hg1 hg0
  clear ef_1
  replace hP : va_P (dC, dI) vwCl [(h0, .inr (3, [.ref h1, .int a0])), (h1, .inl (cI, 9, .inl f_1)), (h2, .inr (3, [.ref h3, .int a1])), (h3, .inl (cI, 9, .inl g1))] H := hP
  replace hD : va_D A [(h0, .inr (3, [.ref h1, .int a0])), (h1, .inl (cI, 9, .inl f_1)), (h2, .inr (3, [.ref h3, .int a1])), (h3, .inl (cI, 9, .inl g1))] := hD
  refine lv_aload_n hx hb dX3_copy_15 rfl (lv_at hl 0 rfl) ?_
  refine lv_aload_n hx hb dX3_copy_16 rfl (lv_at hl 1 rfl) ?_
  refine va_get (D := (dC, dI)) (ci := 3) (v := .int a1) (C := RX3) (T := TX3) (N := 2) hx hb hts hinX3 hown hK hP 2 rfl rfl 1 (by decide) (hts (.fieldLink RX3 15 "MayRings$Order" "size" "I") (List.mem_of_getElem? (i := 6) rfl)) (fun _ h9 => h9) rfl dX3_copy_17 ?_
  refine va_put (D := (dC, dI)) (ci := 3) (v := .int a1) (ty := .int) (C := RX3) (T := TX3) (N := 2) hx hb hts hinX3 tyX3 tyX3_ok nmX3 hown hK hP hD hS 0 rfl rfl 1 (by decide) (hts (.fieldLink RX3 15 "MayRings$Order" "size" "I") (List.mem_of_getElem? (i := 6) rfl)) (fun _ h9 => h9) rfl (by decide +kernel) (rfl) (rfl) (Nat.le_of_ble_eq_true rfl) dX3_copy_20 (fun H locs hP hD hS => ?_)
  replace hP : va_P (dC, dI) vwCl [(h0, .inr (3, [.ref h1, .int a1])), (h1, .inl (cI, 9, .inl f_1)), (h2, .inr (3, [.ref h3, .int a1])), (h3, .inl (cI, 9, .inl g1))] H := hP
  replace hD : va_D A [(h0, .inr (3, [.ref h1, .int a1])), (h1, .inl (cI, 9, .inl f_1)), (h2, .inr (3, [.ref h3, .int a1])), (h3, .inl (cI, 9, .inl g1))] := hD
  have hP9 := hP.sub (ws' := [(h0, .inr (3, [.ref h1, .int a1])), (h1, .inl (cI, 9, .inl f_1)), (h2, .inr (3, [.ref h3, .int a1])), (h3, .inl (cI, 9, .inl g1))]) [0, 1, 2, 3] rfl
  have hD9 := hD.sub (ws' := [(h0, .inr (3, [.ref h1, .int a1])), (h1, .inl (cI, 9, .inl f_1)), (h2, .inr (3, [.ref h3, .int a1])), (h3, .inl (cI, 9, .inl g1))]) [0, 1, 2, 3] (by decide) rfl
  exact W.vret hx hb hr (fun t ht hW => ⟨⟨(), rfl, trivial, ⟨f_1, hf_1, by rw [ht]; exact hP9, hD9⟩⟩, hS.F ht⟩) hS.2.2 dX3_copy_23
