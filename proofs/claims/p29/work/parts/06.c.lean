def v_s_X3_add : List Cond := Cond.code yX3_add cX3_add 2 none :: ([Cond.fieldLink RX3 15 "MayRings$Order" "size" "I", Cond.fieldLink RX3 9 "MayRings$Order" "houses" "[I"] ++ (wsX30 ++ ([])))
theorem k_s_X3_add : GoodIn lw_tbl v_s_X3_add := gd_c (List.mem_of_getElem? (i := 860) (by decide +kernel)) rfl (goodIn_app (gd_c (List.mem_of_getElem? (i := 363) (by decide +kernel)) rfl (gd_c (List.mem_of_getElem? (i := 360) (by decide +kernel)) rfl (gd_nil))) (goodIn_app kfX3 (gd_nil)))
set_option maxHeartbeats 2000000 in
set_option maxRecDepth 100000 in
theorem c_s_X3_add (l : Launch) (dC : Nat → ClassId) (dI : Nat → Nat → Nat) (cB cI cJ cZ cP : ClassId) (h0 : Nat) (h1 : Nat) (g0 : Nat → Int32) (hg0 : rgA (0) (8) g0) (a0 : Int32) (ha0 : rg (-1) (9) a0) (p0 : Int32) (hp0 : rg (0) (8) p0) (sz : Nat) : Met l yX3_add v_s_X3_add ({ frames := 0, cells := 0, slots := 0, locals := 0 }) (va_Pc [.ref h0, .int p0] (fun U => U.heap.size = sz ∧ va_P (dC, dI) vwCl [(h0, .inr (3, [.ref h1, .int a0])), (h1, .inl (cI, 9, .inl g0))] U.heap ∧ va_K (dC, dI) vwCl (ty5 cB cI cJ cZ cP) U ∧ va_D (fun _ => True) [(h0, .inr (3, [.ref h1, .int a0])), (h1, .inl (cI, 9, .inl g0))])) (va_Qv (fun _ : Unit => True) (fun _ t => ∃ (z0 : Int32) (z1 : Nat → Int32), rg (-1) (9) z0 ∧ rgA (0) (8) z1 ∧ va_P (dC, dI) vwCl [(h0, .inr (3, [.ref h1, .int z0])), (h1, .inl (cI, 9, .inl z1))] t.heap ∧ va_D (va_A [(h0, .inr (3, [.ref h1, .int a0])), (h1, .inl (cI, 9, .inl g0))] sz) [(h0, .inr (3, [.ref h1, .int z0])), (h1, .inl (cI, 9, .inl z1))]) (va_A [(h0, .inr (3, [.ref h1, .int a0])), (h1, .inl (cI, 9, .inl g0))] sz)) 0 0 (va_A [(h0, .inr (3, [.ref h1, .int a0])), (h1, .inl (cI, 9, .inl g0))] sz) := by
  refine Met.ofW (cc := cX3_add) (maxL := 2) (ret := none) (by decide) rfl ?_
  intro p e s m args below meth c s₁ B hml hv
  obtain ⟨rfl, hsz, hP, hK, hD0⟩ := hv
  have hx := B.exec
  have hb := B.bytes
  have hr := B.returns
  have hts := atoms_spec (ws := v_s_X3_add) B.pre
  have hown : s.vm.findClass RX3 = some m.cls := findClass_of_methodNamed B.named
  have hlocks := B.notSynchronized
  have hinX3 : ∀ w ∈ wsX30, w ∈ v_s_X3_add := fun _ h => List.mem_cons_of_mem _ (List.mem_append_right _ (List.mem_append_left _ h))
  subst hsz
  have hD := hD0.self (sz := s.heap.size)
  generalize hAe : va_A [(h0, .inr (3, [.ref h1, .int a0])), (h1, .inl (cI, 9, .inl g0))] s.heap.size = A at hD ⊢
  have hA : ∀ q : Nat, s.heap.size ≤ q → A q := fun q h => by rw [← hAe]; exact Or.inr h
  have hP : va_P (dC, dI) vwCl [(h0, .inr (3, [.ref h1, .int a0])), (h1, .inl (cI, 9, .inl g0))] s.heap := hP
  have hl := lv_entry ([.ref h0, .int p0]) (n := 2) (Nat.le_of_ble_eq_true rfl)
  rw [lg_entry_eq]
  generalize (lg_sl ([.ref h0, .int p0]) ++ List.replicate (2 - (lg_sl ([.ref h0, .int p0])).length) Slot.unset).toArray = ls at hl ⊢
  have hl : lv_has ls 2 [(0, .ref h0), (1, .int p0)] := hl
  refine W_gen (A := A) hP (fun H locs hP hS => ?_)
  refine lv_aload_n hx hb dX3_add_0 rfl (lv_at hl 0 rfl) ?_
  refine va_get (D := (dC, dI)) (ci := 3) (v := .int a0) (C := RX3) (T := TX3) (N := 2) hx hb hts hinX3 hown hK hP 0 rfl rfl 1 (by decide) (hts (.fieldLink RX3 15 "MayRings$Order" "size" "I") (List.mem_of_getElem? (i := 1) rfl)) (fun _ h9 => h9) rfl dX3_add_1 ?_
  refine lv_if_lt (tgt := 36) hx hb dX3_add_4 (by decide) (fun c_1 => ?_) (fun c_1 => ?_)
  · skip
    have h_2 : rg (-1) (-1) a0 := by have ha := ha0; have hb_ := (rg_k (x := 0) (c := 0) (by decide)); simp only [rg, fa_lt, fa_le, fa_eq, (by decide : (0 : Int32).toInt = 0)] at ha hb_ c_1; simp only [rg]; omega
    have hP9 := hP.sub (ws' := [(h0, .inr (3, [.ref h1, .int a0])), (h1, .inl (cI, 9, .inl g0))]) [0, 1] rfl
    have hD9 := hD.sub (ws' := [(h0, .inr (3, [.ref h1, .int a0])), (h1, .inl (cI, 9, .inl g0))]) [0, 1] (by decide) rfl
    exact W.vret hx hb hr (fun t ht hW => ⟨⟨(), rfl, trivial, ⟨a0, g0, (rg_mono h_2 (by decide) (by decide)), hg0, by rw [ht]; exact hP9, hD9⟩⟩, hS.F ht⟩) hS.2.2 dX3_add_36
  · skip
    have h_3 : rg (0) (9) a0 := by have ha := ha0; have hb_ := (rg_k (x := 0) (c := 0) (by decide)); simp only [rg, fa_lt, fa_le, fa_eq, (by decide : (0 : Int32).toInt = 0)] at ha hb_ c_1; simp only [rg]; omega
    refine lv_aload_n hx hb dX3_add_7 rfl (lv_at hl 0 rfl) ?_
    refine va_get (D := (dC, dI)) (ci := 3) (v := .int a0) (C := RX3) (T := TX3) (N := 2) hx hb hts hinX3 hown hK hP 0 rfl rfl 1 (by decide) (hts (.fieldLink RX3 15 "MayRings$Order" "size" "I") (List.mem_of_getElem? (i := 1) rfl)) (fun _ h9 => h9) rfl dX3_add_8 ?_
    refine lv_bipush (v := 9) hx hb dX3_add_11 (by decide) ?_
    refine lv_icmp_ge (tgt := 36) hx hb dX3_add_13 (by decide) (fun c_4 => ?_) (fun c_4 => ?_)
    · skip
      have h_5 : rg (9) (9) a0 := by have ha := h_3; have hb_ := (rg_k (x := 9) (c := 9) (by decide)); simp only [rg, fa_lt, fa_le, fa_eq, (by decide : (9 : Int32).toInt = 9)] at ha hb_ c_4; simp only [rg]; omega
      have hP9 := hP.sub (ws' := [(h0, .inr (3, [.ref h1, .int a0])), (h1, .inl (cI, 9, .inl g0))]) [0, 1] rfl
      have hD9 := hD.sub (ws' := [(h0, .inr (3, [.ref h1, .int a0])), (h1, .inl (cI, 9, .inl g0))]) [0, 1] (by decide) rfl
      exact W.vret hx hb hr (fun t ht hW => ⟨⟨(), rfl, trivial, ⟨a0, g0, (rg_mono h_5 (by decide) (by decide)), hg0, by rw [ht]; exact hP9, hD9⟩⟩, hS.F ht⟩) hS.2.2 dX3_add_36
    · skip
      have h_6 : rg (0) (8) a0 := by have ha := h_3; have hb_ := (rg_k (x := 9) (c := 9) (by decide)); simp only [rg, fa_lt, fa_le, fa_eq, (by decide : (9 : Int32).toInt = 9)] at ha hb_ c_4; simp only [rg]; omega
      refine lv_aload_n hx hb dX3_add_16 rfl (lv_at hl 0 rfl) ?_
      refine va_get (D := (dC, dI)) (ci := 3) (v := .ref h1) (C := RX3) (T := TX3) (N := 2) hx hb hts hinX3 hown hK hP 0 rfl rfl 0 (by decide) (hts (.fieldLink RX3 9 "MayRings$Order" "houses" "[I") (List.mem_of_getElem? (i := 2) rfl)) (fun _ h9 => h9) rfl dX3_add_17 ?_
      refine lv_aload_n hx hb dX3_add_20 rfl (lv_at hl 0 rfl) ?_
      refine va_get (D := (dC, dI)) (ci := 3) (v := .int a0) (C := RX3) (T := TX3) (N := 2) hx hb hts hinX3 hown hK hP 0 rfl rfl 1 (by decide) (hts (.fieldLink RX3 15 "MayRings$Order" "size" "I") (List.mem_of_getElem? (i := 1) rfl)) (fun _ h9 => h9) rfl dX3_add_21 ?_
      refine lv_iload_n hx hb dX3_add_24 rfl (lv_at hl 1 rfl) ?_
      refine va_iast hx hb hK hP hD hS 1 1 rfl rfl (rg_in (n := 9) (rg_mono h_6 (by decide) (by decide))) dX3_add_25 (fun H locs hP hD hS => ?_)
      obtain ⟨f_7, ef_7⟩ : ∃ f : Nat → Int32, f = upd g0 (a0 : Int32).toNatClampNeg p0 := ⟨_, rfl⟩
      rw [← ef_7] at hP hD
      have hf_7 : rgA (0) (8) f_7 := by rw [ef_7]; exact rgA_upd hg0 (rg_mono hp0 (by decide) (by decide))
      clear ef_7
      have hP : va_P (dC, dI) vwCl [(h0, .inr (3, [.ref h1, .int a0])), (h1, .inl (cI, 9, .inl f_7))] H := hP
      have hD : va_D A [(h0, .inr (3, [.ref h1, .int a0])), (h1, .inl (cI, 9, .inl f_7))] := hD
      refine lv_aload_n hx hb dX3_add_26 rfl (lv_at hl 0 rfl) ?_
      refine lv_dup hx hb dX3_add_27 rfl ?_
      refine va_get (D := (dC, dI)) (ci := 3) (v := .int a0) (C := RX3) (T := TX3) (N := 2) hx hb hts hinX3 hown hK hP 0 rfl rfl 1 (by decide) (hts (.fieldLink RX3 15 "MayRings$Order" "size" "I") (List.mem_of_getElem? (i := 1) rfl)) (fun _ h9 => h9) rfl dX3_add_28 ?_
      refine lv_iconst (v := 1) hx hb dX3_add_31 (by decide) ?_
      refine lv_iadd hx hb dX3_add_32 ?_
      refine lv_topi (fun x_8 ex_8 => ?_)
      have hx_8 : rg (1) (9) x_8 := by rw [ex_8]; exact rg_mono (rg_add h_6 (rg_k (x := 1) (c := 1) (by decide)) (by decide) (by decide)) (by decide) (by decide)
      have qx_8 : x_8.toInt = a0.toInt + (1) := by rw [ex_8]; exact rg_addE h_6 (rg_k (x := 1) (c := 1) (by decide)) (by decide) (by decide) trivial
      refine va_put (D := (dC, dI)) (ci := 3) (v := .int x_8) (ty := .int) (C := RX3) (T := TX3) (N := 2) hx hb hts hinX3 tyX3 tyX3_ok nmX3 hown hK hP hD hS 0 rfl rfl 1 (by decide) (hts (.fieldLink RX3 15 "MayRings$Order" "size" "I") (List.mem_of_getElem? (i := 1) rfl)) (fun _ h9 => h9) rfl (by decide +kernel) (rfl) (rfl) (Nat.le_of_ble_eq_true rfl) dX3_add_33 (fun H locs hP hD hS => ?_)
      have hP : va_P (dC, dI) vwCl [(h0, .inr (3, [.ref h1, .int x_8])), (h1, .inl (cI, 9, .inl f_7))] H := hP
      have hD : va_D A [(h0, .inr (3, [.ref h1, .int x_8])), (h1, .inl (cI, 9, .inl f_7))] := hD
      have hP9 := hP.sub (ws' := [(h0, .inr (3, [.ref h1, .int x_8])), (h1, .inl (cI, 9, .inl f_7))]) [0, 1] rfl
      have hD9 := hD.sub (ws' := [(h0, .inr (3, [.ref h1, .int x_8])), (h1, .inl (cI, 9, .inl f_7))]) [0, 1] (by decide) rfl
      exact W.vret hx hb hr (fun t ht hW => ⟨⟨(), rfl, trivial, ⟨x_8, f_7, (rg_mono hx_8 (by decide) (by decide)), hf_7, by rw [ht]; exact hP9, hD9⟩⟩, hS.F ht⟩) hS.2.2 dX3_add_36
def v_s_X3_holds : List Cond := Cond.code yX3_holds cX3_holds 3 (some .boolean) :: ([Cond.fieldLink RX3 15 "MayRings$Order" "size" "I", Cond.fieldLink RX3 9 "MayRings$Order" "houses" "[I"] ++ (wsX30 ++ ([])))
theorem k_s_X3_holds : GoodIn lw_tbl v_s_X3_holds := gd_c (List.mem_of_getElem? (i := 856) (by decide +kernel)) rfl (goodIn_app (gd_c (List.mem_of_getElem? (i := 363) (by decide +kernel)) rfl (gd_c (List.mem_of_getElem? (i := 360) (by decide +kernel)) rfl (gd_nil))) (goodIn_app kfX3 (gd_nil)))
set_option maxHeartbeats 2000000 in
set_option maxRecDepth 100000 in
theorem c_s_X3_holds (l : Launch) (dC : Nat → ClassId) (dI : Nat → Nat → Nat) (cB cI cJ cZ cP : ClassId) (h0 : Nat) (h1 : Nat) (g0 : Nat → Int32) (hg0 : rgA (0) (8) g0) (a0 : Int32) (ha0 : rg (-1) (9) a0) (p0 : Int32) (sz : Nat) : Met l yX3_holds v_s_X3_holds ({ frames := 0, cells := 0, slots := 0, locals := 0 }) (va_Pc [.ref h0, .int p0] (fun U => U.heap.size = sz ∧ va_P (dC, dI) vwCl [(h0, .inr (3, [.ref h1, .int a0])), (h1, .inl (cI, 9, .inl g0))] U.heap ∧ va_K (dC, dI) vwCl (ty5 cB cI cJ cZ cP) U ∧ va_D (fun _ => True) [(h0, .inr (3, [.ref h1, .int a0])), (h1, .inl (cI, 9, .inl g0))])) (va_Qi (fun (r : Int32) (u9 : Unit) => rg (0) (1) r) (fun u9 t => va_P (dC, dI) vwCl [(h0, .inr (3, [.ref h1, .int a0])), (h1, .inl (cI, 9, .inl g0))] t.heap ∧ va_D (va_A [(h0, .inr (3, [.ref h1, .int a0])), (h1, .inl (cI, 9, .inl g0))] sz) [(h0, .inr (3, [.ref h1, .int a0])), (h1, .inl (cI, 9, .inl g0))]) (va_A [(h0, .inr (3, [.ref h1, .int a0])), (h1, .inl (cI, 9, .inl g0))] sz)) 0 0 (va_A [(h0, .inr (3, [.ref h1, .int a0])), (h1, .inl (cI, 9, .inl g0))] sz) := by
  refine Met.ofW (cc := cX3_holds) (maxL := 3) (ret := (some .boolean)) (by decide) rfl ?_
  intro p e s m args below meth c s₁ B hml hv
  obtain ⟨rfl, hsz, hP, hK, hD0⟩ := hv
  have hx := B.exec
  have hb := B.bytes
  have hr := B.returns
  have hts := atoms_spec (ws := v_s_X3_holds) B.pre
  have hown : s.vm.findClass RX3 = some m.cls := findClass_of_methodNamed B.named
  have hlocks := B.notSynchronized
  have hinX3 : ∀ w ∈ wsX30, w ∈ v_s_X3_holds := fun _ h => List.mem_cons_of_mem _ (List.mem_append_right _ (List.mem_append_left _ h))
  subst hsz
  have hD := hD0.self (sz := s.heap.size)
  generalize hAe : va_A [(h0, .inr (3, [.ref h1, .int a0])), (h1, .inl (cI, 9, .inl g0))] s.heap.size = A at hD ⊢
  have hA : ∀ q : Nat, s.heap.size ≤ q → A q := fun q h => by rw [← hAe]; exact Or.inr h
  have hP : va_P (dC, dI) vwCl [(h0, .inr (3, [.ref h1, .int a0])), (h1, .inl (cI, 9, .inl g0))] s.heap := hP
  have hl := lv_entry ([.ref h0, .int p0]) (n := 3) (Nat.le_of_ble_eq_true rfl)
  rw [lg_entry_eq]
  generalize (lg_sl ([.ref h0, .int p0]) ++ List.replicate (3 - (lg_sl ([.ref h0, .int p0])).length) Slot.unset).toArray = ls at hl ⊢
  have hl : lv_has ls 3 [(0, .ref h0), (1, .int p0)] := hl
  refine W_gen (A := A) hP (fun H locs hP hS => ?_)
  refine lv_iconst (v := 0) hx hb dX3_holds_0 (by decide) ?_
  refine lv_istore_n (lv' := [(2, .int 0), (0, .ref h0), (1, .int p0)]) hx hb dX3_holds_1 rfl hl (by decide) rfl (fun ls hl => ?_)
  refine W_loopM (σ := Int32) (fun u H locs ls => va_P (dC, dI) vwCl [(h0, .inr (3, [.ref h1, .int a0])), (h1, .inl (cI, 9, .inl g0))] H ∧ va_D A [(h0, .inr (3, [.ref h1, .int a0])), (h1, .inl (cI, 9, .inl g0))] ∧ va_S A s.heap H locs ∧ lv_has ls 3 [(2, .int u), (0, .ref h0), (1, .int p0)] ∧ rg (0) (9) u) (fun u => ((9) - u.toInt).toNat) 2 [] ?_ (0) H locs ls ⟨hP, hD, hS, hl, (rg_mono (rg_k (x := 0) (c := 0) (by decide)) (by decide) (by decide))⟩
  rintro x_71 H locs ls ⟨hP, hD, hS, hl, hx_71⟩ ih_79
  have hP : va_P (dC, dI) vwCl [(h0, .inr (3, [.ref h1, .int a0])), (h1, .inl (cI, 9, .inl g0))] H := hP
  have hD : va_D A [(h0, .inr (3, [.ref h1, .int a0])), (h1, .inl (cI, 9, .inl g0))] := hD
  have hl : lv_has ls 3 [(2, .int x_71), (0, .ref h0), (1, .int p0)] := hl
  have hx_71 : rg (0) (9) x_71 := hx_71
  refine lv_iload_n hx hb dX3_holds_2 rfl (lv_at hl 0 rfl) ?_
  refine lv_aload_n hx hb dX3_holds_3 rfl (lv_at hl 1 rfl) ?_
  refine va_get (D := (dC, dI)) (ci := 3) (v := .int a0) (C := RX3) (T := TX3) (N := 2) hx hb hts hinX3 hown hK hP 0 rfl rfl 1 (by decide) (hts (.fieldLink RX3 15 "MayRings$Order" "size" "I") (List.mem_of_getElem? (i := 1) rfl)) (fun _ h9 => h9) rfl dX3_holds_4 ?_
  refine lv_icmp_ge (tgt := 28) hx hb dX3_holds_7 (by decide) (fun c_80 => ?_) (fun c_80 => ?_)
  · skip
    refine lv_iconst (v := 0) hx hb dX3_holds_28 (by decide) ?_
    have hP9 := hP.sub (ws' := [(h0, .inr (3, [.ref h1, .int a0])), (h1, .inl (cI, 9, .inl g0))]) [0, 1] rfl
    have hD9 := hD.sub (ws' := [(h0, .inr (3, [.ref h1, .int a0])), (h1, .inl (cI, 9, .inl g0))]) [0, 1] (by decide) rfl
    exact W.zret (v := 0) hx hb hr (rfl) (fun t ht hW => ⟨⟨0, (), rfl, (rg_mono (rg_k (x := 0) (c := 0) (by decide)) (by decide) (by decide)), ⟨by rw [ht]; exact hP9, hD9⟩⟩, hS.F ht⟩) hS.2.2 dX3_holds_29
  · skip
    have h_81 : rg (0) (8) x_71 := by have ha := hx_71; have hb_ := ha0; simp only [rg, fa_lt, fa_le, fa_eq] at ha hb_ c_80; simp only [rg]; omega
    have h_82 : rg (1) (9) a0 := by have ha := hx_71; have hb_ := ha0; simp only [rg, fa_lt, fa_le, fa_eq] at ha hb_ c_80; simp only [rg]; omega
    refine lv_aload_n hx hb dX3_holds_10 rfl (lv_at hl 1 rfl) ?_
    refine va_get (D := (dC, dI)) (ci := 3) (v := .ref h1) (C := RX3) (T := TX3) (N := 2) hx hb hts hinX3 hown hK hP 0 rfl rfl 0 (by decide) (hts (.fieldLink RX3 9 "MayRings$Order" "houses" "[I") (List.mem_of_getElem? (i := 2) rfl)) (fun _ h9 => h9) rfl dX3_holds_11 ?_
    refine lv_iload_n hx hb dX3_holds_14 rfl (lv_at hl 0 rfl) ?_
    refine va_iald hx hb hK hP 1 1 rfl rfl (rg_in (n := 9) (rg_mono h_81 (by decide) (by decide))) dX3_holds_15 ?_
    refine lv_topi (fun x_83 ex_83 => ?_)
    have hx_83 : rg (0) (8) x_83 := by rw [ex_83]; exact rg_mono (hg0 _) (by decide) (by decide)
    refine lv_iload_n hx hb dX3_holds_16 rfl (lv_at hl 2 rfl) ?_
    refine lv_icmp_ne (tgt := 22) hx hb dX3_holds_17 (by decide) (fun c_84 => ?_) (fun c_84 => ?_)
    · skip
      obtain ⟨x_85, ex_85⟩ : ∃ y : Int32, y = x_71 + Int32.ofInt (1) := ⟨_, rfl⟩
      have hx_85 : rg (1) (9) x_85 := by rw [ex_85]; exact rg_mono (rg_add h_81 (rg_k (x := Int32.ofInt (1)) (c := 1) (by decide)) (by decide) (by decide)) (by decide) (by decide)
      have qx_85 : x_85.toInt = x_71.toInt + (1) := by rw [ex_85]; exact rg_addE h_81 (rg_k (x := Int32.ofInt (1)) (c := 1) (by decide)) (by decide) (by decide) (by decide)
      refine lv_iinc (v := x_85) (lv' := [(2, .int x_85), (0, .ref h0), (1, .int p0)]) hx hb dX3_holds_22 hl (k := 0) rfl (ex_85.symm) (by decide) rfl (fun ls hl => ?_)
      clear ex_85
      refine lv_goto (tgt := 2) hx hb dX3_holds_25 (by decide) ?_
      exact ih_79 (x_85) H locs ls ⟨hP.sub (ws' := [(h0, .inr (3, [.ref h1, .int a0])), (h1, .inl (cI, 9, .inl g0))]) [0, 1] rfl, hD.sub (ws' := [(h0, .inr (3, [.ref h1, .int a0])), (h1, .inl (cI, 9, .inl g0))]) [0, 1] (by decide) rfl, hS, lv_sub hl [0, 1, 2] rfl, (rg_mono hx_85 (by decide) (by decide))⟩ (by show ((9) - x_85.toInt).toNat < ((9) - x_71.toInt).toNat; have ha := h_81; simp only [rg] at ha; omega)
    · skip
      have h_86 : rg (0) (8) p0 := by have ha := hx_83; have hb_ := (rg_any p0); simp only [rg, fa_lt, fa_le, fa_eq] at ha hb_ c_84; simp only [rg]; omega
      refine lv_iconst (v := 1) hx hb dX3_holds_20 (by decide) ?_
      have hP9 := hP.sub (ws' := [(h0, .inr (3, [.ref h1, .int a0])), (h1, .inl (cI, 9, .inl g0))]) [0, 1] rfl
      have hD9 := hD.sub (ws' := [(h0, .inr (3, [.ref h1, .int a0])), (h1, .inl (cI, 9, .inl g0))]) [0, 1] (by decide) rfl
      exact W.zret (v := 1) hx hb hr (rfl) (fun t ht hW => ⟨⟨1, (), rfl, (rg_mono (rg_k (x := 1) (c := 1) (by decide)) (by decide) (by decide)), ⟨by rw [ht]; exact hP9, hD9⟩⟩, hS.F ht⟩) hS.2.2 dX3_holds_21
def v_s_X3_houseAt : List Cond := Cond.code yX3_houseAt cX3_houseAt 2 (some .int) :: ([Cond.fieldLink RX3 15 "MayRings$Order" "size" "I", Cond.fieldLink RX3 9 "MayRings$Order" "houses" "[I"] ++ (wsX30 ++ ([])))
theorem k_s_X3_houseAt : GoodIn lw_tbl v_s_X3_houseAt := gd_c (List.mem_of_getElem? (i := 1118) (by decide +kernel)) rfl (goodIn_app (gd_c (List.mem_of_getElem? (i := 363) (by decide +kernel)) rfl (gd_c (List.mem_of_getElem? (i := 360) (by decide +kernel)) rfl (gd_nil))) (goodIn_app kfX3 (gd_nil)))
set_option maxHeartbeats 2000000 in
set_option maxRecDepth 100000 in
theorem c_s_X3_houseAt (l : Launch) (dC : Nat → ClassId) (dI : Nat → Nat → Nat) (cB cI cJ cZ cP : ClassId) (h0 : Nat) (h1 : Nat) (g0 : Nat → Int32) (hg0 : rgA (0) (8) g0) (a0 : Int32) (ha0 : rg (-1) (9) a0) (p0 : Int32) (sz : Nat) : Met l yX3_houseAt v_s_X3_houseAt ({ frames := 0, cells := 0, slots := 0, locals := 0 }) (va_Pc [.ref h0, .int p0] (fun U => U.heap.size = sz ∧ va_P (dC, dI) vwCl [(h0, .inr (3, [.ref h1, .int a0])), (h1, .inl (cI, 9, .inl g0))] U.heap ∧ va_K (dC, dI) vwCl (ty5 cB cI cJ cZ cP) U ∧ va_D (fun _ => True) [(h0, .inr (3, [.ref h1, .int a0])), (h1, .inl (cI, 9, .inl g0))])) (va_Qi (fun (r : Int32) (u9 : Unit) => rg (-1) (8) r) (fun u9 t => va_P (dC, dI) vwCl [(h0, .inr (3, [.ref h1, .int a0])), (h1, .inl (cI, 9, .inl g0))] t.heap ∧ va_D (va_A [(h0, .inr (3, [.ref h1, .int a0])), (h1, .inl (cI, 9, .inl g0))] sz) [(h0, .inr (3, [.ref h1, .int a0])), (h1, .inl (cI, 9, .inl g0))]) (va_A [(h0, .inr (3, [.ref h1, .int a0])), (h1, .inl (cI, 9, .inl g0))] sz)) 0 0 (va_A [(h0, .inr (3, [.ref h1, .int a0])), (h1, .inl (cI, 9, .inl g0))] sz) := by
  refine Met.ofW (cc := cX3_houseAt) (maxL := 2) (ret := (some .int)) (by decide) rfl ?_
  intro p e s m args below meth c s₁ B hml hv
  obtain ⟨rfl, hsz, hP, hK, hD0⟩ := hv
  have hx := B.exec
  have hb := B.bytes
  have hr := B.returns
  have hts := atoms_spec (ws := v_s_X3_houseAt) B.pre
  have hown : s.vm.findClass RX3 = some m.cls := findClass_of_methodNamed B.named
  have hlocks := B.notSynchronized
  have hinX3 : ∀ w ∈ wsX30, w ∈ v_s_X3_houseAt := fun _ h => List.mem_cons_of_mem _ (List.mem_append_right _ (List.mem_append_left _ h))
  subst hsz
  have hD := hD0.self (sz := s.heap.size)
  generalize hAe : va_A [(h0, .inr (3, [.ref h1, .int a0])), (h1, .inl (cI, 9, .inl g0))] s.heap.size = A at hD ⊢
  have hA : ∀ q : Nat, s.heap.size ≤ q → A q := fun q h => by rw [← hAe]; exact Or.inr h
  have hP : va_P (dC, dI) vwCl [(h0, .inr (3, [.ref h1, .int a0])), (h1, .inl (cI, 9, .inl g0))] s.heap := hP
  have hl := lv_entry ([.ref h0, .int p0]) (n := 2) (Nat.le_of_ble_eq_true rfl)
  rw [lg_entry_eq]
  generalize (lg_sl ([.ref h0, .int p0]) ++ List.replicate (2 - (lg_sl ([.ref h0, .int p0])).length) Slot.unset).toArray = ls at hl ⊢
  have hl : lv_has ls 2 [(0, .ref h0), (1, .int p0)] := hl
  refine W_gen (A := A) hP (fun H locs hP hS => ?_)
  refine lv_iload_n hx hb dX3_houseAt_0 rfl (lv_at hl 1 rfl) ?_
  refine lv_if_lt (tgt := 21) hx hb dX3_houseAt_1 (by decide) (fun c_1 => ?_) (fun c_1 => ?_)
  · skip
    have h_2 : rg (-2147483648) (-1) p0 := by have ha := (rg_any p0); have hb_ := (rg_k (x := 0) (c := 0) (by decide)); simp only [rg, fa_lt, fa_le, fa_eq, (by decide : (0 : Int32).toInt = 0)] at ha hb_ c_1; simp only [rg]; omega
    refine lv_iconst (v := (-1)) hx hb dX3_houseAt_21 (by decide) ?_
    have hP9 := hP.sub (ws' := [(h0, .inr (3, [.ref h1, .int a0])), (h1, .inl (cI, 9, .inl g0))]) [0, 1] rfl
    have hD9 := hD.sub (ws' := [(h0, .inr (3, [.ref h1, .int a0])), (h1, .inl (cI, 9, .inl g0))]) [0, 1] (by decide) rfl
    exact W.iret (v := (-1)) hx hb hr (fun t ht hW => ⟨⟨(-1), (), rfl, (rg_mono (rg_k (x := (-1)) (c := -1) (by decide)) (by decide) (by decide)), ⟨by rw [ht]; exact hP9, hD9⟩⟩, hS.F ht⟩) hS.2.2 dX3_houseAt_22
  · skip
    have h_3 : rg (0) (2147483647) p0 := by have ha := (rg_any p0); have hb_ := (rg_k (x := 0) (c := 0) (by decide)); simp only [rg, fa_lt, fa_le, fa_eq, (by decide : (0 : Int32).toInt = 0)] at ha hb_ c_1; simp only [rg]; omega
    refine lv_iload_n hx hb dX3_houseAt_4 rfl (lv_at hl 1 rfl) ?_
    refine lv_aload_n hx hb dX3_houseAt_5 rfl (lv_at hl 0 rfl) ?_
    refine va_get (D := (dC, dI)) (ci := 3) (v := .int a0) (C := RX3) (T := TX3) (N := 2) hx hb hts hinX3 hown hK hP 0 rfl rfl 1 (by decide) (hts (.fieldLink RX3 15 "MayRings$Order" "size" "I") (List.mem_of_getElem? (i := 1) rfl)) (fun _ h9 => h9) rfl dX3_houseAt_6 ?_
    refine lv_icmp_ge (tgt := 21) hx hb dX3_houseAt_9 (by decide) (fun c_4 => ?_) (fun c_4 => ?_)
    · skip
      refine lv_iconst (v := (-1)) hx hb dX3_houseAt_21 (by decide) ?_
      have hP9 := hP.sub (ws' := [(h0, .inr (3, [.ref h1, .int a0])), (h1, .inl (cI, 9, .inl g0))]) [0, 1] rfl
      have hD9 := hD.sub (ws' := [(h0, .inr (3, [.ref h1, .int a0])), (h1, .inl (cI, 9, .inl g0))]) [0, 1] (by decide) rfl
      exact W.iret (v := (-1)) hx hb hr (fun t ht hW => ⟨⟨(-1), (), rfl, (rg_mono (rg_k (x := (-1)) (c := -1) (by decide)) (by decide) (by decide)), ⟨by rw [ht]; exact hP9, hD9⟩⟩, hS.F ht⟩) hS.2.2 dX3_houseAt_22
    · skip
      have h_5 : rg (0) (8) p0 := by have ha := h_3; have hb_ := ha0; simp only [rg, fa_lt, fa_le, fa_eq] at ha hb_ c_4; simp only [rg]; omega
      have h_6 : rg (1) (9) a0 := by have ha := h_3; have hb_ := ha0; simp only [rg, fa_lt, fa_le, fa_eq] at ha hb_ c_4; simp only [rg]; omega
      refine lv_aload_n hx hb dX3_houseAt_12 rfl (lv_at hl 0 rfl) ?_
      refine va_get (D := (dC, dI)) (ci := 3) (v := .ref h1) (C := RX3) (T := TX3) (N := 2) hx hb hts hinX3 hown hK hP 0 rfl rfl 0 (by decide) (hts (.fieldLink RX3 9 "MayRings$Order" "houses" "[I") (List.mem_of_getElem? (i := 2) rfl)) (fun _ h9 => h9) rfl dX3_houseAt_13 ?_
      refine lv_iload_n hx hb dX3_houseAt_16 rfl (lv_at hl 1 rfl) ?_
      refine va_iald hx hb hK hP 1 1 rfl rfl (rg_in (n := 9) (rg_mono h_5 (by decide) (by decide))) dX3_houseAt_17 ?_
      refine lv_topi (fun x_7 ex_7 => ?_)
      have hx_7 : rg (0) (8) x_7 := by rw [ex_7]; exact rg_mono (hg0 _) (by decide) (by decide)
      refine lv_goto (tgt := 22) hx hb dX3_houseAt_18 (by decide) ?_
      have hP9 := hP.sub (ws' := [(h0, .inr (3, [.ref h1, .int a0])), (h1, .inl (cI, 9, .inl g0))]) [0, 1] rfl
      have hD9 := hD.sub (ws' := [(h0, .inr (3, [.ref h1, .int a0])), (h1, .inl (cI, 9, .inl g0))]) [0, 1] (by decide) rfl
      exact W.iret (v := x_7) hx hb hr (fun t ht hW => ⟨⟨x_7, (), rfl, (rg_mono hx_7 (by decide) (by decide)), ⟨by rw [ht]; exact hP9, hD9⟩⟩, hS.F ht⟩) hS.2.2 dX3_houseAt_22
def v_s_X4_ago : List Cond := Cond.code yX4_ago cX4_ago 4 (some .int) :: ([Cond.fieldLink RX4 9 "MayRings$Past" "met" "[I", Cond.fieldLink RX4 22 "MayRings$Past" "years" "I", Cond.methodLink RX4 55 Lib.Math.min.name, Cond.static Lib.Math.min.name, Cond.initialized RJ9, Cond.code Lib.Math.min.name Lib.Math.min.code 2 (some .int)] ++ (wsX40 ++ ([])))
theorem k_s_X4_ago : GoodIn lw_tbl v_s_X4_ago := gd_c (List.mem_of_getElem? (i := 798) (by decide +kernel)) rfl (goodIn_app (gd_c (List.mem_of_getElem? (i := 373) (by decide +kernel)) rfl (gd_c (List.mem_of_getElem? (i := 376) (by decide +kernel)) rfl (gd_c (List.mem_of_getElem? (i := 799) (by decide +kernel)) rfl (gd_c (List.mem_of_getElem? (i := 589) (by decide +kernel)) rfl (gd_c (List.mem_of_getElem? (i := 145) (by decide +kernel)) rfl (gd_c (List.mem_of_getElem? (i := 590) (by decide +kernel)) rfl (gd_nil))))))) (goodIn_app kfX4 (gd_nil)))
set_option maxHeartbeats 2000000 in
set_option maxRecDepth 100000 in
theorem c_s_X4_ago (l : Launch) (dC : Nat → ClassId) (dI : Nat → Nat → Nat) (cB cI cJ cZ cP : ClassId) (h0 : Nat) (h1 : Nat) (g0 : Nat → Int32) (h2 : Nat) (a1 : Int32) (a2 : Int32) (a3 : Int32) (a4 : Int32) (p0 : Int32) (hp0 : rg (0) (8) p0) (p1 : Int32) (hp1 : rg (0) (8) p1) (sz : Nat) : Met l yX4_ago v_s_X4_ago ({ frames := 1, cells := 0, slots := 0, locals := 30 }) (va_Pc [.ref h0, .int p0, .int p1] (fun U => U.heap.size = sz ∧ va_P (dC, dI) vwCl [(h0, .inr (4, [.ref h1, .ref h2, .int a1, .int a2, .int a3, .int a4])), (h1, .inl (cI, 81, .inl g0))] U.heap ∧ va_K (dC, dI) vwCl (ty5 cB cI cJ cZ cP) U ∧ va_D (fun _ => True) [(h0, .inr (4, [.ref h1, .ref h2, .int a1, .int a2, .int a3, .int a4])), (h1, .inl (cI, 81, .inl g0))])) (va_Qi (fun (r : Int32) (u9 : Unit) => rg (-2147483648) (99) r) (fun u9 t => va_P (dC, dI) vwCl [(h0, .inr (4, [.ref h1, .ref h2, .int a1, .int a2, .int a3, .int a4])), (h1, .inl (cI, 81, .inl g0))] t.heap ∧ va_D (va_A [(h0, .inr (4, [.ref h1, .ref h2, .int a1, .int a2, .int a3, .int a4])), (h1, .inl (cI, 81, .inl g0))] sz) [(h0, .inr (4, [.ref h1, .ref h2, .int a1, .int a2, .int a3, .int a4])), (h1, .inl (cI, 81, .inl g0))]) (va_A [(h0, .inr (4, [.ref h1, .ref h2, .int a1, .int a2, .int a3, .int a4])), (h1, .inl (cI, 81, .inl g0))] sz)) 0 0 (va_A [(h0, .inr (4, [.ref h1, .ref h2, .int a1, .int a2, .int a3, .int a4])), (h1, .inl (cI, 81, .inl g0))] sz) := by
  refine Met.ofW (cc := cX4_ago) (maxL := 4) (ret := (some .int)) (by decide) rfl ?_
  intro p e s m args below meth c s₁ B hml hv
  obtain ⟨rfl, hsz, hP, hK, hD0⟩ := hv
  have hx := B.exec
  have hb := B.bytes
  have hr := B.returns
  have hts := atoms_spec (ws := v_s_X4_ago) B.pre
  have hown : s.vm.findClass RX4 = some m.cls := findClass_of_methodNamed B.named
  have hlocks := B.notSynchronized
  have hinX4 : ∀ w ∈ wsX40, w ∈ v_s_X4_ago := fun _ h => List.mem_cons_of_mem _ (List.mem_append_right _ (List.mem_append_left _ h))
  subst hsz
  have hD := hD0.self (sz := s.heap.size)
  generalize hAe : va_A [(h0, .inr (4, [.ref h1, .ref h2, .int a1, .int a2, .int a3, .int a4])), (h1, .inl (cI, 81, .inl g0))] s.heap.size = A at hD ⊢
  have hA : ∀ q : Nat, s.heap.size ≤ q → A q := fun q h => by rw [← hAe]; exact Or.inr h
  have hP : va_P (dC, dI) vwCl [(h0, .inr (4, [.ref h1, .ref h2, .int a1, .int a2, .int a3, .int a4])), (h1, .inl (cI, 81, .inl g0))] s.heap := hP
  have hl := lv_entry ([.ref h0, .int p0, .int p1]) (n := 4) (Nat.le_of_ble_eq_true rfl)
  rw [lg_entry_eq]
  generalize (lg_sl ([.ref h0, .int p0, .int p1]) ++ List.replicate (4 - (lg_sl ([.ref h0, .int p0, .int p1])).length) Slot.unset).toArray = ls at hl ⊢
  have hl : lv_has ls 4 [(0, .ref h0), (1, .int p0), (2, .int p1)] := hl
  refine W_gen (A := A) hP (fun H locs hP hS => ?_)
  refine lv_aload_n hx hb dX4_ago_0 rfl (lv_at hl 0 rfl) ?_
  refine va_get (D := (dC, dI)) (ci := 4) (v := .ref h1) (C := RX4) (T := TX4) (N := 6) hx hb hts hinX4 hown hK hP 0 rfl rfl 0 (by decide) (hts (.fieldLink RX4 9 "MayRings$Past" "met" "[I") (List.mem_of_getElem? (i := 1) rfl)) (fun _ h9 => h9) rfl dX4_ago_1 ?_
  refine lv_iload_n hx hb dX4_ago_4 rfl (lv_at hl 1 rfl) ?_
  refine lv_bipush (v := 9) hx hb dX4_ago_5 (by decide) ?_
  refine lv_imul hx hb dX4_ago_7 ?_
  refine lv_topi (fun x_1 ex_1 => ?_)
  have hx_1 : rg (0) (72) x_1 := by rw [ex_1]; exact rg_mono (rg_mul hp0 (rg_k (x := 9) (c := 9) (by decide)) (by decide) (by decide) (by decide)) (by decide) (by decide)
  refine lv_iload_n hx hb dX4_ago_8 rfl (lv_at hl 2 rfl) ?_
  refine lv_iadd hx hb dX4_ago_9 ?_
  refine lv_topi (fun x_2 ex_2 => ?_)
  have hx_2 : rg (0) (80) x_2 := by rw [ex_2]; exact rg_mono (rg_add hx_1 hp1 (by decide) (by decide)) (by decide) (by decide)
  have qx_2 : x_2.toInt = x_1.toInt + p1.toInt := by rw [ex_2]; exact rg_addQ hx_1 hp1 (by decide) (by decide)
  refine va_iald hx hb hK hP 1 1 rfl rfl (rg_in (n := 81) (rg_mono hx_2 (by decide) (by decide))) dX4_ago_10 ?_
  refine lv_topi (fun x_3 ex_3 => ?_)
  refine lv_istore_n (lv' := [(3, .int x_3), (0, .ref h0), (1, .int p0), (2, .int p1)]) hx hb dX4_ago_11 rfl hl (by decide) rfl (fun ls hl => ?_)
  refine lv_iload_n hx hb dX4_ago_12 rfl (lv_at hl 0 rfl) ?_
  refine lv_if_ne (tgt := 21) hx hb dX4_ago_13 (by decide) (fun c_4 => ?_) (fun c_4 => ?_)
  · skip
    refine lv_bipush (v := 99) hx hb dX4_ago_21 (by decide) ?_
    refine lv_aload_n hx hb dX4_ago_23 rfl (lv_at hl 1 rfl) ?_
    refine va_get (D := (dC, dI)) (ci := 4) (v := .int a1) (C := RX4) (T := TX4) (N := 6) hx hb hts hinX4 hown hK hP 0 rfl rfl 2 (by decide) (hts (.fieldLink RX4 22 "MayRings$Past" "years" "I") (List.mem_of_getElem? (i := 2) rfl)) (fun _ h9 => h9) rfl dX4_ago_24 ?_
    refine lv_iload_n hx hb dX4_ago_27 rfl (lv_at hl 0 rfl) ?_
    refine lv_isub hx hb dX4_ago_28 ?_
    refine lv_topi (fun x_5 ex_5 => ?_)
    refine lv_iconst (v := 1) hx hb dX4_ago_29 (by decide) ?_
    refine lv_iadd hx hb dX4_ago_30 ?_
    refine lv_topi (fun x_6 ex_6 => ?_)
    refine va_mmin hx hb (by rw [hml]; exact hl.1.symm) hown (hts (.methodLink RX4 55 Lib.Math.min.name) (List.mem_of_getElem? (i := 3) rfl)) (hts (.static Lib.Math.min.name) (List.mem_of_getElem? (i := 4) rfl)) (hts (.initialized RJ9) (List.mem_of_getElem? (i := 5) rfl)) (hts (.code Lib.Math.min.name Lib.Math.min.code 2 (some .int)) (List.mem_of_getElem? (i := 6) rfl)) (Nat.le_of_ble_eq_true rfl) (Nat.le_of_ble_eq_true rfl) (Nat.le_of_ble_eq_true rfl) (Nat.le_of_ble_eq_true rfl) dX4_ago_31 ?_
    refine lv_topi (fun x_7 ex_7 => ?_)
    have hx_7 : rg (-2147483648) (99) x_7 := by rw [ex_7]; exact rg_mono (rg_min (rg_k (x := 99) (c := 99) (by decide)) (rg_any x_6)) (by decide) (by decide)
    clear ex_7
    have hP9 := hP.sub (ws' := [(h0, .inr (4, [.ref h1, .ref h2, .int a1, .int a2, .int a3, .int a4])), (h1, .inl (cI, 81, .inl g0))]) [0, 1] rfl
    have hD9 := hD.sub (ws' := [(h0, .inr (4, [.ref h1, .ref h2, .int a1, .int a2, .int a3, .int a4])), (h1, .inl (cI, 81, .inl g0))]) [0, 1] (by decide) rfl
    exact W.iret (v := x_7) hx hb hr (fun t ht hW => ⟨⟨x_7, (), rfl, (rg_mono hx_7 (by decide) (by decide)), ⟨by rw [ht]; exact hP9, hD9⟩⟩, hS.F ht⟩) hS.2.2 dX4_ago_34
  · skip
    have h_8 : rg (0) (0) x_3 := by have ha := (rg_any x_3); have hb_ := (rg_k (x := 0) (c := 0) (by decide)); simp only [rg, fa_lt, fa_le, fa_eq, (by decide : (0 : Int32).toInt = 0)] at ha hb_ c_4; simp only [rg]; omega
    refine lv_bipush (v := 99) hx hb dX4_ago_16 (by decide) ?_
    refine lv_goto (tgt := 34) hx hb dX4_ago_18 (by decide) ?_
    have hP9 := hP.sub (ws' := [(h0, .inr (4, [.ref h1, .ref h2, .int a1, .int a2, .int a3, .int a4])), (h1, .inl (cI, 81, .inl g0))]) [0, 1] rfl
    have hD9 := hD.sub (ws' := [(h0, .inr (4, [.ref h1, .ref h2, .int a1, .int a2, .int a3, .int a4])), (h1, .inl (cI, 81, .inl g0))]) [0, 1] (by decide) rfl
    exact W.iret (v := 99) hx hb hr (fun t ht hW => ⟨⟨99, (), rfl, (rg_mono (rg_k (x := 99) (c := 99) (by decide)) (by decide) (by decide)), ⟨by rw [ht]; exact hP9, hD9⟩⟩, hS.F ht⟩) hS.2.2 dX4_ago_34
def v_s_X1_push : List Cond := Cond.code yX1_push cX1_push 2 none :: ([Cond.fieldLink RX1 25 "MayRings$Law" "top" "I", Cond.fieldLink RX1 15 "MayRings$Law" "stack" "[I"] ++ (wsX10 ++ ([])))
theorem k_s_X1_push : GoodIn lw_tbl v_s_X1_push := gd_c (List.mem_of_getElem? (i := 817) (by decide +kernel)) rfl (goodIn_app (gd_c (List.mem_of_getElem? (i := 187) (by decide +kernel)) rfl (gd_c (List.mem_of_getElem? (i := 184) (by decide +kernel)) rfl (gd_nil))) (goodIn_app kfX1 (gd_nil)))
set_option maxHeartbeats 2000000 in
set_option maxRecDepth 100000 in
theorem c_s_X1_push (l : Launch) (dC : Nat → ClassId) (dI : Nat → Nat → Nat) (cB cI cJ cZ cP : ClassId) (h0 : Nat) (h1 : Nat) (h2 : Nat) (g1 : Nat → Int32) (h3 : Nat) (a0 : Int32) (a1 : Int32) (ha1 : rg (0) (40) a1) (a2 : Int32) (p0 : Int32) (sz : Nat) : Met l yX1_push v_s_X1_push ({ frames := 0, cells := 0, slots := 0, locals := 0 }) (va_Pc [.ref h0, .int p0] (fun U => U.heap.size = sz ∧ va_P (dC, dI) vwCl [(h0, .inr (1, [.ref h1, .ref h2, .ref h3, .int a0, .int a1, .int a2])), (h2, .inl (cI, 40, .inl g1))] U.heap ∧ va_K (dC, dI) vwCl (ty5 cB cI cJ cZ cP) U ∧ va_D (fun _ => True) [(h0, .inr (1, [.ref h1, .ref h2, .ref h3, .int a0, .int a1, .int a2])), (h2, .inl (cI, 40, .inl g1))])) (va_Qv (fun _ : Unit => True) (fun _ t => ∃ (z0 : Int32) (z1 : Nat → Int32), rg (0) (40) z0 ∧ va_P (dC, dI) vwCl [(h0, .inr (1, [.ref h1, .ref h2, .ref h3, .int a0, .int z0, .int a2])), (h2, .inl (cI, 40, .inl z1))] t.heap ∧ va_D (va_A [(h0, .inr (1, [.ref h1, .ref h2, .ref h3, .int a0, .int a1, .int a2])), (h2, .inl (cI, 40, .inl g1))] sz) [(h0, .inr (1, [.ref h1, .ref h2, .ref h3, .int a0, .int z0, .int a2])), (h2, .inl (cI, 40, .inl z1))]) (va_A [(h0, .inr (1, [.ref h1, .ref h2, .ref h3, .int a0, .int a1, .int a2])), (h2, .inl (cI, 40, .inl g1))] sz)) 0 0 (va_A [(h0, .inr (1, [.ref h1, .ref h2, .ref h3, .int a0, .int a1, .int a2])), (h2, .inl (cI, 40, .inl g1))] sz) := by
  refine Met.ofW (cc := cX1_push) (maxL := 2) (ret := none) (by decide) rfl ?_
  intro p e s m args below meth c s₁ B hml hv
  obtain ⟨rfl, hsz, hP, hK, hD0⟩ := hv
  have hx := B.exec
  have hb := B.bytes
  have hr := B.returns
  have hts := atoms_spec (ws := v_s_X1_push) B.pre
  have hown : s.vm.findClass RX1 = some m.cls := findClass_of_methodNamed B.named
  have hlocks := B.notSynchronized
  have hinX1 : ∀ w ∈ wsX10, w ∈ v_s_X1_push := fun _ h => List.mem_cons_of_mem _ (List.mem_append_right _ (List.mem_append_left _ h))
  subst hsz
  have hD := hD0.self (sz := s.heap.size)
  generalize hAe : va_A [(h0, .inr (1, [.ref h1, .ref h2, .ref h3, .int a0, .int a1, .int a2])), (h2, .inl (cI, 40, .inl g1))] s.heap.size = A at hD ⊢
  have hA : ∀ q : Nat, s.heap.size ≤ q → A q := fun q h => by rw [← hAe]; exact Or.inr h
  have hP : va_P (dC, dI) vwCl [(h0, .inr (1, [.ref h1, .ref h2, .ref h3, .int a0, .int a1, .int a2])), (h2, .inl (cI, 40, .inl g1))] s.heap := hP
  have hl := lv_entry ([.ref h0, .int p0]) (n := 2) (Nat.le_of_ble_eq_true rfl)
  rw [lg_entry_eq]
  generalize (lg_sl ([.ref h0, .int p0]) ++ List.replicate (2 - (lg_sl ([.ref h0, .int p0])).length) Slot.unset).toArray = ls at hl ⊢
  have hl : lv_has ls 2 [(0, .ref h0), (1, .int p0)] := hl
  refine W_gen (A := A) hP (fun H locs hP hS => ?_)
  refine lv_aload_n hx hb dX1_push_0 rfl (lv_at hl 0 rfl) ?_
  refine va_get (D := (dC, dI)) (ci := 1) (v := .int a1) (C := RX1) (T := TX1) (N := 6) hx hb hts hinX1 hown hK hP 0 rfl rfl 4 (by decide) (hts (.fieldLink RX1 25 "MayRings$Law" "top" "I") (List.mem_of_getElem? (i := 1) rfl)) (fun _ h9 => h9) rfl dX1_push_1 ?_
  refine lv_bipush (v := 40) hx hb dX1_push_4 (by decide) ?_
  refine lv_icmp_ge (tgt := 29) hx hb dX1_push_6 (by decide) (fun c_1 => ?_) (fun c_1 => ?_)
  · skip
    have h_2 : rg (40) (40) a1 := by have ha := ha1; have hb_ := (rg_k (x := 40) (c := 40) (by decide)); simp only [rg, fa_lt, fa_le, fa_eq, (by decide : (40 : Int32).toInt = 40)] at ha hb_ c_1; simp only [rg]; omega
    have hP9 := hP.sub (ws' := [(h0, .inr (1, [.ref h1, .ref h2, .ref h3, .int a0, .int a1, .int a2])), (h2, .inl (cI, 40, .inl g1))]) [0, 1] rfl
    have hD9 := hD.sub (ws' := [(h0, .inr (1, [.ref h1, .ref h2, .ref h3, .int a0, .int a1, .int a2])), (h2, .inl (cI, 40, .inl g1))]) [0, 1] (by decide) rfl
    exact W.vret hx hb hr (fun t ht hW => ⟨⟨(), rfl, trivial, ⟨a1, g1, (rg_mono h_2 (by decide) (by decide)), by rw [ht]; exact hP9, hD9⟩⟩, hS.F ht⟩) hS.2.2 dX1_push_29
  · skip
    have h_3 : rg (0) (39) a1 := by have ha := ha1; have hb_ := (rg_k (x := 40) (c := 40) (by decide)); simp only [rg, fa_lt, fa_le, fa_eq, (by decide : (40 : Int32).toInt = 40)] at ha hb_ c_1; simp only [rg]; omega
    refine lv_aload_n hx hb dX1_push_9 rfl (lv_at hl 0 rfl) ?_
    refine va_get (D := (dC, dI)) (ci := 1) (v := .ref h2) (C := RX1) (T := TX1) (N := 6) hx hb hts hinX1 hown hK hP 0 rfl rfl 1 (by decide) (hts (.fieldLink RX1 15 "MayRings$Law" "stack" "[I") (List.mem_of_getElem? (i := 2) rfl)) (fun _ h9 => h9) rfl dX1_push_10 ?_
    refine lv_aload_n hx hb dX1_push_13 rfl (lv_at hl 0 rfl) ?_
    refine va_get (D := (dC, dI)) (ci := 1) (v := .int a1) (C := RX1) (T := TX1) (N := 6) hx hb hts hinX1 hown hK hP 0 rfl rfl 4 (by decide) (hts (.fieldLink RX1 25 "MayRings$Law" "top" "I") (List.mem_of_getElem? (i := 1) rfl)) (fun _ h9 => h9) rfl dX1_push_14 ?_
    refine lv_iload_n hx hb dX1_push_17 rfl (lv_at hl 1 rfl) ?_
    refine va_iast hx hb hK hP hD hS 1 1 rfl rfl (rg_in (n := 40) (rg_mono h_3 (by decide) (by decide))) dX1_push_18 (fun H locs hP hD hS => ?_)
    obtain ⟨f_4, ef_4⟩ : ∃ f : Nat → Int32, f = upd g1 (a1 : Int32).toNatClampNeg p0 := ⟨_, rfl⟩
    rw [← ef_4] at hP hD
    clear ef_4
    have hP : va_P (dC, dI) vwCl [(h0, .inr (1, [.ref h1, .ref h2, .ref h3, .int a0, .int a1, .int a2])), (h2, .inl (cI, 40, .inl f_4))] H := hP
    have hD : va_D A [(h0, .inr (1, [.ref h1, .ref h2, .ref h3, .int a0, .int a1, .int a2])), (h2, .inl (cI, 40, .inl f_4))] := hD
    refine lv_aload_n hx hb dX1_push_19 rfl (lv_at hl 0 rfl) ?_
    refine lv_dup hx hb dX1_push_20 rfl ?_
    refine va_get (D := (dC, dI)) (ci := 1) (v := .int a1) (C := RX1) (T := TX1) (N := 6) hx hb hts hinX1 hown hK hP 0 rfl rfl 4 (by decide) (hts (.fieldLink RX1 25 "MayRings$Law" "top" "I") (List.mem_of_getElem? (i := 1) rfl)) (fun _ h9 => h9) rfl dX1_push_21 ?_
    refine lv_iconst (v := 1) hx hb dX1_push_24 (by decide) ?_
    refine lv_iadd hx hb dX1_push_25 ?_
    refine lv_topi (fun x_5 ex_5 => ?_)
    have hx_5 : rg (1) (40) x_5 := by rw [ex_5]; exact rg_mono (rg_add h_3 (rg_k (x := 1) (c := 1) (by decide)) (by decide) (by decide)) (by decide) (by decide)
    have qx_5 : x_5.toInt = a1.toInt + (1) := by rw [ex_5]; exact rg_addE h_3 (rg_k (x := 1) (c := 1) (by decide)) (by decide) (by decide) trivial
    refine va_put (D := (dC, dI)) (ci := 1) (v := .int x_5) (ty := .int) (C := RX1) (T := TX1) (N := 6) hx hb hts hinX1 tyX1 tyX1_ok nmX1 hown hK hP hD hS 0 rfl rfl 4 (by decide) (hts (.fieldLink RX1 25 "MayRings$Law" "top" "I") (List.mem_of_getElem? (i := 1) rfl)) (fun _ h9 => h9) rfl (by decide +kernel) (rfl) (rfl) (Nat.le_of_ble_eq_true rfl) dX1_push_26 (fun H locs hP hD hS => ?_)
    have hP : va_P (dC, dI) vwCl [(h0, .inr (1, [.ref h1, .ref h2, .ref h3, .int a0, .int x_5, .int a2])), (h2, .inl (cI, 40, .inl f_4))] H := hP
    have hD : va_D A [(h0, .inr (1, [.ref h1, .ref h2, .ref h3, .int a0, .int x_5, .int a2])), (h2, .inl (cI, 40, .inl f_4))] := hD
    have hP9 := hP.sub (ws' := [(h0, .inr (1, [.ref h1, .ref h2, .ref h3, .int a0, .int x_5, .int a2])), (h2, .inl (cI, 40, .inl f_4))]) [0, 1] rfl
    have hD9 := hD.sub (ws' := [(h0, .inr (1, [.ref h1, .ref h2, .ref h3, .int a0, .int x_5, .int a2])), (h2, .inl (cI, 40, .inl f_4))]) [0, 1] (by decide) rfl
    exact W.vret hx hb hr (fun t ht hW => ⟨⟨(), rfl, trivial, ⟨x_5, f_4, (rg_mono hx_5 (by decide) (by decide)), by rw [ht]; exact hP9, hD9⟩⟩, hS.F ht⟩) hS.2.2 dX1_push_29
def v_s_X1_pop : List Cond := Cond.code yX1_pop cX1_pop 1 (some .int) :: ([Cond.fieldLink RX1 25 "MayRings$Law" "top" "I", Cond.fieldLink RX1 15 "MayRings$Law" "stack" "[I"] ++ (wsX10 ++ ([])))
theorem k_s_X1_pop : GoodIn lw_tbl v_s_X1_pop := gd_c (List.mem_of_getElem? (i := 821) (by decide +kernel)) rfl (goodIn_app (gd_c (List.mem_of_getElem? (i := 187) (by decide +kernel)) rfl (gd_c (List.mem_of_getElem? (i := 184) (by decide +kernel)) rfl (gd_nil))) (goodIn_app kfX1 (gd_nil)))
set_option maxHeartbeats 2000000 in
set_option maxRecDepth 100000 in
theorem c_s_X1_pop (l : Launch) (dC : Nat → ClassId) (dI : Nat → Nat → Nat) (cB cI cJ cZ cP : ClassId) (h0 : Nat) (h1 : Nat) (h2 : Nat) (g1 : Nat → Int32) (h3 : Nat) (a0 : Int32) (a1 : Int32) (ha1 : rg (0) (40) a1) (a2 : Int32) (sz : Nat) : Met l yX1_pop v_s_X1_pop ({ frames := 0, cells := 0, slots := 0, locals := 0 }) (va_Pc [.ref h0] (fun U => U.heap.size = sz ∧ va_P (dC, dI) vwCl [(h0, .inr (1, [.ref h1, .ref h2, .ref h3, .int a0, .int a1, .int a2])), (h2, .inl (cI, 40, .inl g1))] U.heap ∧ va_K (dC, dI) vwCl (ty5 cB cI cJ cZ cP) U ∧ va_D (fun _ => True) [(h0, .inr (1, [.ref h1, .ref h2, .ref h3, .int a0, .int a1, .int a2])), (h2, .inl (cI, 40, .inl g1))])) (va_Qi (fun (r : Int32) (u9 : Unit) => True) (fun u9 t => ∃ (z0 : Int32), rg (0) (40) z0 ∧ va_P (dC, dI) vwCl [(h0, .inr (1, [.ref h1, .ref h2, .ref h3, .int a0, .int z0, .int a2])), (h2, .inl (cI, 40, .inl g1))] t.heap ∧ va_D (va_A [(h0, .inr (1, [.ref h1, .ref h2, .ref h3, .int a0, .int a1, .int a2])), (h2, .inl (cI, 40, .inl g1))] sz) [(h0, .inr (1, [.ref h1, .ref h2, .ref h3, .int a0, .int z0, .int a2])), (h2, .inl (cI, 40, .inl g1))]) (va_A [(h0, .inr (1, [.ref h1, .ref h2, .ref h3, .int a0, .int a1, .int a2])), (h2, .inl (cI, 40, .inl g1))] sz)) 0 0 (va_A [(h0, .inr (1, [.ref h1, .ref h2, .ref h3, .int a0, .int a1, .int a2])), (h2, .inl (cI, 40, .inl g1))] sz) := by
  refine Met.ofW (cc := cX1_pop) (maxL := 1) (ret := (some .int)) (by decide) rfl ?_
  intro p e s m args below meth c s₁ B hml hv
  obtain ⟨rfl, hsz, hP, hK, hD0⟩ := hv
  have hx := B.exec
  have hb := B.bytes
  have hr := B.returns
  have hts := atoms_spec (ws := v_s_X1_pop) B.pre
  have hown : s.vm.findClass RX1 = some m.cls := findClass_of_methodNamed B.named
  have hlocks := B.notSynchronized
  have hinX1 : ∀ w ∈ wsX10, w ∈ v_s_X1_pop := fun _ h => List.mem_cons_of_mem _ (List.mem_append_right _ (List.mem_append_left _ h))
  subst hsz
  have hD := hD0.self (sz := s.heap.size)
  generalize hAe : va_A [(h0, .inr (1, [.ref h1, .ref h2, .ref h3, .int a0, .int a1, .int a2])), (h2, .inl (cI, 40, .inl g1))] s.heap.size = A at hD ⊢
  have hA : ∀ q : Nat, s.heap.size ≤ q → A q := fun q h => by rw [← hAe]; exact Or.inr h
  have hP : va_P (dC, dI) vwCl [(h0, .inr (1, [.ref h1, .ref h2, .ref h3, .int a0, .int a1, .int a2])), (h2, .inl (cI, 40, .inl g1))] s.heap := hP
  have hl := lv_entry ([.ref h0]) (n := 1) (Nat.le_of_ble_eq_true rfl)
  rw [lg_entry_eq]
  generalize (lg_sl ([.ref h0]) ++ List.replicate (1 - (lg_sl ([.ref h0])).length) Slot.unset).toArray = ls at hl ⊢
  have hl : lv_has ls 1 [(0, .ref h0)] := hl
  refine W_gen (A := A) hP (fun H locs hP hS => ?_)
  refine lv_aload_n hx hb dX1_pop_0 rfl (lv_at hl 0 rfl) ?_
  refine va_get (D := (dC, dI)) (ci := 1) (v := .int a1) (C := RX1) (T := TX1) (N := 6) hx hb hts hinX1 hown hK hP 0 rfl rfl 4 (by decide) (hts (.fieldLink RX1 25 "MayRings$Law" "top" "I") (List.mem_of_getElem? (i := 1) rfl)) (fun _ h9 => h9) rfl dX1_pop_1 ?_
  refine lv_if_gt (tgt := 9) hx hb dX1_pop_4 (by decide) (fun c_1 => ?_) (fun c_1 => ?_)
  · skip
    have h_2 : rg (1) (40) a1 := by have ha := ha1; have hb_ := (rg_k (x := 0) (c := 0) (by decide)); simp only [rg, fa_lt, fa_le, fa_eq, (by decide : (0 : Int32).toInt = 0)] at ha hb_ c_1; simp only [rg]; omega
    refine lv_aload_n hx hb dX1_pop_9 rfl (lv_at hl 0 rfl) ?_
    refine lv_dup hx hb dX1_pop_10 rfl ?_
    refine va_get (D := (dC, dI)) (ci := 1) (v := .int a1) (C := RX1) (T := TX1) (N := 6) hx hb hts hinX1 hown hK hP 0 rfl rfl 4 (by decide) (hts (.fieldLink RX1 25 "MayRings$Law" "top" "I") (List.mem_of_getElem? (i := 1) rfl)) (fun _ h9 => h9) rfl dX1_pop_11 ?_
    refine lv_iconst (v := 1) hx hb dX1_pop_14 (by decide) ?_
    refine lv_isub hx hb dX1_pop_15 ?_
    refine lv_topi (fun x_3 ex_3 => ?_)
    have hx_3 : rg (0) (39) x_3 := by rw [ex_3]; exact rg_mono (rg_sub h_2 (rg_k (x := 1) (c := 1) (by decide)) (by decide) (by decide)) (by decide) (by decide)
    have qx_3 : x_3.toInt = a1.toInt + (-1) := by rw [ex_3]; exact rg_subE h_2 (rg_k (x := 1) (c := 1) (by decide)) (by decide) (by decide) trivial
    refine va_put (D := (dC, dI)) (ci := 1) (v := .int x_3) (ty := .int) (C := RX1) (T := TX1) (N := 6) hx hb hts hinX1 tyX1 tyX1_ok nmX1 hown hK hP hD hS 0 rfl rfl 4 (by decide) (hts (.fieldLink RX1 25 "MayRings$Law" "top" "I") (List.mem_of_getElem? (i := 1) rfl)) (fun _ h9 => h9) rfl (by decide +kernel) (rfl) (rfl) (Nat.le_of_ble_eq_true rfl) dX1_pop_16 (fun H locs hP hD hS => ?_)
    have hP : va_P (dC, dI) vwCl [(h0, .inr (1, [.ref h1, .ref h2, .ref h3, .int a0, .int x_3, .int a2])), (h2, .inl (cI, 40, .inl g1))] H := hP
    have hD : va_D A [(h0, .inr (1, [.ref h1, .ref h2, .ref h3, .int a0, .int x_3, .int a2])), (h2, .inl (cI, 40, .inl g1))] := hD
    refine lv_aload_n hx hb dX1_pop_19 rfl (lv_at hl 0 rfl) ?_
    refine va_get (D := (dC, dI)) (ci := 1) (v := .ref h2) (C := RX1) (T := TX1) (N := 6) hx hb hts hinX1 hown hK hP 0 rfl rfl 1 (by decide) (hts (.fieldLink RX1 15 "MayRings$Law" "stack" "[I") (List.mem_of_getElem? (i := 2) rfl)) (fun _ h9 => h9) rfl dX1_pop_20 ?_
    refine lv_aload_n hx hb dX1_pop_23 rfl (lv_at hl 0 rfl) ?_
    refine va_get (D := (dC, dI)) (ci := 1) (v := .int x_3) (C := RX1) (T := TX1) (N := 6) hx hb hts hinX1 hown hK hP 0 rfl rfl 4 (by decide) (hts (.fieldLink RX1 25 "MayRings$Law" "top" "I") (List.mem_of_getElem? (i := 1) rfl)) (fun _ h9 => h9) rfl dX1_pop_24 ?_
    refine va_iald hx hb hK hP 1 1 rfl rfl (rg_in (n := 40) (rg_mono hx_3 (by decide) (by decide))) dX1_pop_27 ?_
    refine lv_topi (fun x_4 ex_4 => ?_)
    have hP9 := hP.sub (ws' := [(h0, .inr (1, [.ref h1, .ref h2, .ref h3, .int a0, .int x_3, .int a2])), (h2, .inl (cI, 40, .inl g1))]) [0, 1] rfl
    have hD9 := hD.sub (ws' := [(h0, .inr (1, [.ref h1, .ref h2, .ref h3, .int a0, .int x_3, .int a2])), (h2, .inl (cI, 40, .inl g1))]) [0, 1] (by decide) rfl
    exact W.iret (v := x_4) hx hb hr (fun t ht hW => ⟨⟨x_4, (), rfl, trivial, ⟨x_3, (rg_mono hx_3 (by decide) (by decide)), by rw [ht]; exact hP9, hD9⟩⟩, hS.F ht⟩) hS.2.2 dX1_pop_28
  · skip
    have h_5 : rg (0) (0) a1 := by have ha := ha1; have hb_ := (rg_k (x := 0) (c := 0) (by decide)); simp only [rg, fa_lt, fa_le, fa_eq, (by decide : (0 : Int32).toInt = 0)] at ha hb_ c_1; simp only [rg]; omega
    refine lv_iconst (v := 0) hx hb dX1_pop_7 (by decide) ?_
    have hP9 := hP.sub (ws' := [(h0, .inr (1, [.ref h1, .ref h2, .ref h3, .int a0, .int a1, .int a2])), (h2, .inl (cI, 40, .inl g1))]) [0, 1] rfl
    have hD9 := hD.sub (ws' := [(h0, .inr (1, [.ref h1, .ref h2, .ref h3, .int a0, .int a1, .int a2])), (h2, .inl (cI, 40, .inl g1))]) [0, 1] (by decide) rfl
    exact W.iret (v := 0) hx hb hr (fun t ht hW => ⟨⟨0, (), rfl, trivial, ⟨a1, (rg_mono h_5 (by decide) (by decide)), by rw [ht]; exact hP9, hD9⟩⟩, hS.F ht⟩) hS.2.2 dX1_pop_8
def v_s_X1_joined : List Cond := Cond.code yX1_joined cX1_joined 3 (some .int) :: ([] ++ ([]))
theorem k_s_X1_joined : GoodIn lw_tbl v_s_X1_joined := gd_c (List.mem_of_getElem? (i := 824) (by decide +kernel)) rfl (goodIn_app (gd_nil) (gd_nil))
set_option maxHeartbeats 2000000 in
set_option maxRecDepth 100000 in
theorem c_s_X1_joined (l : Launch) (dC : Nat → ClassId) (dI : Nat → Nat → Nat) (cB cI cJ cZ cP : ClassId) (p0 : Int32) (p1 : Int32) (p2 : Int32) (sz : Nat) : Met l yX1_joined v_s_X1_joined ({ frames := 0, cells := 0, slots := 0, locals := 0 }) (va_Pc [.int p0, .int p1, .int p2] (fun U => U.heap.size = sz ∧ va_P (dC, dI) vwCl [] U.heap ∧ va_K (dC, dI) vwCl (ty5 cB cI cJ cZ cP) U ∧ va_D (fun _ => True) [])) (va_Qi (fun (r : Int32) (u9 : Unit) => True) (fun u9 t => va_P (dC, dI) vwCl [] t.heap ∧ va_D (va_A [] sz) []) (va_A [] sz)) 0 0 (va_A [] sz) := by
  refine Met.ofW (cc := cX1_joined) (maxL := 3) (ret := (some .int)) (by decide) rfl ?_
  intro p e s m args below meth c s₁ B hml hv
  obtain ⟨rfl, hsz, hP, hK, hD0⟩ := hv
  have hx := B.exec
  have hb := B.bytes
  have hr := B.returns
  have hts := atoms_spec (ws := v_s_X1_joined) B.pre
  have hown : s.vm.findClass RX1 = some m.cls := findClass_of_methodNamed B.named
  have hlocks := B.notSynchronized
  subst hsz
  have hD := hD0.self (sz := s.heap.size)
  generalize hAe : va_A [] s.heap.size = A at hD ⊢
  have hA : ∀ q : Nat, s.heap.size ≤ q → A q := fun q h => by rw [← hAe]; exact Or.inr h
  have hP : va_P (dC, dI) vwCl [] s.heap := hP
  have hl := lv_entry ([.int p0, .int p1, .int p2]) (n := 3) (Nat.le_of_ble_eq_true rfl)
  rw [lg_entry_eq]
  generalize (lg_sl ([.int p0, .int p1, .int p2]) ++ List.replicate (3 - (lg_sl ([.int p0, .int p1, .int p2])).length) Slot.unset).toArray = ls at hl ⊢
  have hl : lv_has ls 3 [(0, .int p0), (1, .int p1), (2, .int p2)] := hl
  refine W_gen (A := A) hP (fun H locs hP hS => ?_)
  refine lv_iload_n hx hb dX1_joined_0 rfl (lv_at hl 0 rfl) ?_
  by_cases c_1 : p0 = 9
  · subst c_1
    refine lv_tableIn (off := 87) (tgt := 88) hx hb dX1_joined_1 (by decide) (by decide) (by decide) (by decide) ?_
    refine lv_iload_n hx hb dX1_joined_88 rfl (lv_at hl 1 rfl) ?_
    refine lv_if_ne (tgt := 96) hx hb dX1_joined_89 (by decide) (fun c_2 => ?_) (fun c_2 => ?_)
    · skip
      refine lv_iconst (v := 1) hx hb dX1_joined_96 (by decide) ?_
      refine lv_goto (tgt := 101) hx hb dX1_joined_97 (by decide) ?_
      have hP9 := hP.sub (ws' := []) [] rfl
      have hD9 := hD.sub (ws' := []) [] (by decide) rfl
      exact W.iret (v := 1) hx hb hr (fun t ht hW => ⟨⟨1, (), rfl, trivial, ⟨by rw [ht]; exact hP9, hD9⟩⟩, hS.F ht⟩) hS.2.2 dX1_joined_101
    · skip
      have h_3 : rg (0) (0) p1 := by have ha := (rg_any p1); have hb_ := (rg_k (x := 0) (c := 0) (by decide)); simp only [rg, fa_lt, fa_le, fa_eq, (by decide : (0 : Int32).toInt = 0)] at ha hb_ c_2; simp only [rg]; omega
      refine lv_iload_n hx hb dX1_joined_92 rfl (lv_at hl 2 rfl) ?_
      refine lv_if_eq (tgt := 100) hx hb dX1_joined_93 (by decide) (fun c_4 => ?_) (fun c_4 => ?_)
      · skip
        have h_5 : rg (0) (0) p2 := by have ha := (rg_any p2); have hb_ := (rg_k (x := 0) (c := 0) (by decide)); simp only [rg, fa_lt, fa_le, fa_eq, (by decide : (0 : Int32).toInt = 0)] at ha hb_ c_4; simp only [rg]; omega
        refine lv_iconst (v := 0) hx hb dX1_joined_100 (by decide) ?_
        have hP9 := hP.sub (ws' := []) [] rfl
        have hD9 := hD.sub (ws' := []) [] (by decide) rfl
        exact W.iret (v := 0) hx hb hr (fun t ht hW => ⟨⟨0, (), rfl, trivial, ⟨by rw [ht]; exact hP9, hD9⟩⟩, hS.F ht⟩) hS.2.2 dX1_joined_101
      · skip
        refine lv_iconst (v := 1) hx hb dX1_joined_96 (by decide) ?_
        refine lv_goto (tgt := 101) hx hb dX1_joined_97 (by decide) ?_
        have hP9 := hP.sub (ws' := []) [] rfl
        have hD9 := hD.sub (ws' := []) [] (by decide) rfl
        exact W.iret (v := 1) hx hb hr (fun t ht hW => ⟨⟨1, (), rfl, trivial, ⟨by rw [ht]; exact hP9, hD9⟩⟩, hS.F ht⟩) hS.2.2 dX1_joined_101
  by_cases c_6 : p0 = 10
  · subst c_6
    refine lv_tableIn (off := 101) (tgt := 102) hx hb dX1_joined_1 (by decide) (by decide) (by decide) (by decide) ?_
    refine lv_iload_n hx hb dX1_joined_102 rfl (lv_at hl 1 rfl) ?_
    refine lv_if_eq (tgt := 114) hx hb dX1_joined_103 (by decide) (fun c_7 => ?_) (fun c_7 => ?_)
    · skip
      have h_8 : rg (0) (0) p1 := by have ha := (rg_any p1); have hb_ := (rg_k (x := 0) (c := 0) (by decide)); simp only [rg, fa_lt, fa_le, fa_eq, (by decide : (0 : Int32).toInt = 0)] at ha hb_ c_7; simp only [rg]; omega
      refine lv_iconst (v := 0) hx hb dX1_joined_114 (by decide) ?_
      have hP9 := hP.sub (ws' := []) [] rfl
      have hD9 := hD.sub (ws' := []) [] (by decide) rfl
      exact W.iret (v := 0) hx hb hr (fun t ht hW => ⟨⟨0, (), rfl, trivial, ⟨by rw [ht]; exact hP9, hD9⟩⟩, hS.F ht⟩) hS.2.2 dX1_joined_115
    · skip
      refine lv_iload_n hx hb dX1_joined_106 rfl (lv_at hl 2 rfl) ?_
      refine lv_if_eq (tgt := 114) hx hb dX1_joined_107 (by decide) (fun c_9 => ?_) (fun c_9 => ?_)
      · skip
        have h_10 : rg (0) (0) p2 := by have ha := (rg_any p2); have hb_ := (rg_k (x := 0) (c := 0) (by decide)); simp only [rg, fa_lt, fa_le, fa_eq, (by decide : (0 : Int32).toInt = 0)] at ha hb_ c_9; simp only [rg]; omega
        refine lv_iconst (v := 0) hx hb dX1_joined_114 (by decide) ?_
        have hP9 := hP.sub (ws' := []) [] rfl
        have hD9 := hD.sub (ws' := []) [] (by decide) rfl
        exact W.iret (v := 0) hx hb hr (fun t ht hW => ⟨⟨0, (), rfl, trivial, ⟨by rw [ht]; exact hP9, hD9⟩⟩, hS.F ht⟩) hS.2.2 dX1_joined_115
      · skip
        refine lv_iconst (v := 1) hx hb dX1_joined_110 (by decide) ?_
        refine lv_goto (tgt := 115) hx hb dX1_joined_111 (by decide) ?_
        have hP9 := hP.sub (ws' := []) [] rfl
        have hD9 := hD.sub (ws' := []) [] (by decide) rfl
        exact W.iret (v := 1) hx hb hr (fun t ht hW => ⟨⟨1, (), rfl, trivial, ⟨by rw [ht]; exact hP9, hD9⟩⟩, hS.F ht⟩) hS.2.2 dX1_joined_115
  by_cases c_11 : p0 = 11
  · subst c_11
    refine lv_tableIn (off := 160) (tgt := 161) hx hb dX1_joined_1 (by decide) (by decide) (by decide) (by decide) ?_
    refine lv_iload_n hx hb dX1_joined_161 rfl (lv_at hl 2 rfl) ?_
    refine lv_if_ne (tgt := 169) hx hb dX1_joined_162 (by decide) (fun c_12 => ?_) (fun c_12 => ?_)
    · skip
      refine lv_iload_n hx hb dX1_joined_169 rfl (lv_at hl 1 rfl) ?_
      refine lv_iload_n hx hb dX1_joined_170 rfl (lv_at hl 2 rfl) ?_
      refine lv_idiv hx hb dX1_joined_171 c_12 ?_
      refine lv_topi (fun x_13 ex_13 => ?_)
      have hP9 := hP.sub (ws' := []) [] rfl
      have hD9 := hD.sub (ws' := []) [] (by decide) rfl
      exact W.iret (v := x_13) hx hb hr (fun t ht hW => ⟨⟨x_13, (), rfl, trivial, ⟨by rw [ht]; exact hP9, hD9⟩⟩, hS.F ht⟩) hS.2.2 dX1_joined_172
    · skip
      have h_14 : rg (0) (0) p2 := by have ha := (rg_any p2); have hb_ := (rg_k (x := 0) (c := 0) (by decide)); simp only [rg, fa_lt, fa_le, fa_eq, (by decide : (0 : Int32).toInt = 0)] at ha hb_ c_12; simp only [rg]; omega
      refine lv_iconst (v := 0) hx hb dX1_joined_165 (by decide) ?_
      refine lv_goto (tgt := 172) hx hb dX1_joined_166 (by decide) ?_
      have hP9 := hP.sub (ws' := []) [] rfl
      have hD9 := hD.sub (ws' := []) [] (by decide) rfl
      exact W.iret (v := 0) hx hb hr (fun t ht hW => ⟨⟨0, (), rfl, trivial, ⟨by rw [ht]; exact hP9, hD9⟩⟩, hS.F ht⟩) hS.2.2 dX1_joined_172
  by_cases c_15 : p0 = 12
  · subst c_15
    refine lv_tableIn (off := 160) (tgt := 161) hx hb dX1_joined_1 (by decide) (by decide) (by decide) (by decide) ?_
    refine lv_iload_n hx hb dX1_joined_161 rfl (lv_at hl 2 rfl) ?_
    refine lv_if_ne (tgt := 169) hx hb dX1_joined_162 (by decide) (fun c_16 => ?_) (fun c_16 => ?_)
    · skip
      refine lv_iload_n hx hb dX1_joined_169 rfl (lv_at hl 1 rfl) ?_
      refine lv_iload_n hx hb dX1_joined_170 rfl (lv_at hl 2 rfl) ?_
      refine lv_idiv hx hb dX1_joined_171 c_16 ?_
      refine lv_topi (fun x_17 ex_17 => ?_)
      have hP9 := hP.sub (ws' := []) [] rfl
      have hD9 := hD.sub (ws' := []) [] (by decide) rfl
      exact W.iret (v := x_17) hx hb hr (fun t ht hW => ⟨⟨x_17, (), rfl, trivial, ⟨by rw [ht]; exact hP9, hD9⟩⟩, hS.F ht⟩) hS.2.2 dX1_joined_172
    · skip
      have h_18 : rg (0) (0) p2 := by have ha := (rg_any p2); have hb_ := (rg_k (x := 0) (c := 0) (by decide)); simp only [rg, fa_lt, fa_le, fa_eq, (by decide : (0 : Int32).toInt = 0)] at ha hb_ c_16; simp only [rg]; omega
      refine lv_iconst (v := 0) hx hb dX1_joined_165 (by decide) ?_
      refine lv_goto (tgt := 172) hx hb dX1_joined_166 (by decide) ?_
      have hP9 := hP.sub (ws' := []) [] rfl
      have hD9 := hD.sub (ws' := []) [] (by decide) rfl
      exact W.iret (v := 0) hx hb hr (fun t ht hW => ⟨⟨0, (), rfl, trivial, ⟨by rw [ht]; exact hP9, hD9⟩⟩, hS.F ht⟩) hS.2.2 dX1_joined_172
  by_cases c_19 : p0 = 13
  · subst c_19
    refine lv_tableIn (off := 160) (tgt := 161) hx hb dX1_joined_1 (by decide) (by decide) (by decide) (by decide) ?_
    refine lv_iload_n hx hb dX1_joined_161 rfl (lv_at hl 2 rfl) ?_
    refine lv_if_ne (tgt := 169) hx hb dX1_joined_162 (by decide) (fun c_20 => ?_) (fun c_20 => ?_)
    · skip
      refine lv_iload_n hx hb dX1_joined_169 rfl (lv_at hl 1 rfl) ?_
      refine lv_iload_n hx hb dX1_joined_170 rfl (lv_at hl 2 rfl) ?_
      refine lv_idiv hx hb dX1_joined_171 c_20 ?_
      refine lv_topi (fun x_21 ex_21 => ?_)
      have hP9 := hP.sub (ws' := []) [] rfl
      have hD9 := hD.sub (ws' := []) [] (by decide) rfl
      exact W.iret (v := x_21) hx hb hr (fun t ht hW => ⟨⟨x_21, (), rfl, trivial, ⟨by rw [ht]; exact hP9, hD9⟩⟩, hS.F ht⟩) hS.2.2 dX1_joined_172
    · skip
      have h_22 : rg (0) (0) p2 := by have ha := (rg_any p2); have hb_ := (rg_k (x := 0) (c := 0) (by decide)); simp only [rg, fa_lt, fa_le, fa_eq, (by decide : (0 : Int32).toInt = 0)] at ha hb_ c_20; simp only [rg]; omega
      refine lv_iconst (v := 0) hx hb dX1_joined_165 (by decide) ?_
      refine lv_goto (tgt := 172) hx hb dX1_joined_166 (by decide) ?_
      have hP9 := hP.sub (ws' := []) [] rfl
      have hD9 := hD.sub (ws' := []) [] (by decide) rfl
      exact W.iret (v := 0) hx hb hr (fun t ht hW => ⟨⟨0, (), rfl, trivial, ⟨by rw [ht]; exact hP9, hD9⟩⟩, hS.F ht⟩) hS.2.2 dX1_joined_172
  by_cases c_23 : p0 = 14
  · subst c_23
    refine lv_tableIn (off := 160) (tgt := 161) hx hb dX1_joined_1 (by decide) (by decide) (by decide) (by decide) ?_
    refine lv_iload_n hx hb dX1_joined_161 rfl (lv_at hl 2 rfl) ?_
    refine lv_if_ne (tgt := 169) hx hb dX1_joined_162 (by decide) (fun c_24 => ?_) (fun c_24 => ?_)
    · skip
      refine lv_iload_n hx hb dX1_joined_169 rfl (lv_at hl 1 rfl) ?_
      refine lv_iload_n hx hb dX1_joined_170 rfl (lv_at hl 2 rfl) ?_
      refine lv_idiv hx hb dX1_joined_171 c_24 ?_
      refine lv_topi (fun x_25 ex_25 => ?_)
      have hP9 := hP.sub (ws' := []) [] rfl
      have hD9 := hD.sub (ws' := []) [] (by decide) rfl
      exact W.iret (v := x_25) hx hb hr (fun t ht hW => ⟨⟨x_25, (), rfl, trivial, ⟨by rw [ht]; exact hP9, hD9⟩⟩, hS.F ht⟩) hS.2.2 dX1_joined_172
    · skip
      have h_26 : rg (0) (0) p2 := by have ha := (rg_any p2); have hb_ := (rg_k (x := 0) (c := 0) (by decide)); simp only [rg, fa_lt, fa_le, fa_eq, (by decide : (0 : Int32).toInt = 0)] at ha hb_ c_24; simp only [rg]; omega
      refine lv_iconst (v := 0) hx hb dX1_joined_165 (by decide) ?_
      refine lv_goto (tgt := 172) hx hb dX1_joined_166 (by decide) ?_
      have hP9 := hP.sub (ws' := []) [] rfl
      have hD9 := hD.sub (ws' := []) [] (by decide) rfl
      exact W.iret (v := 0) hx hb hr (fun t ht hW => ⟨⟨0, (), rfl, trivial, ⟨by rw [ht]; exact hP9, hD9⟩⟩, hS.F ht⟩) hS.2.2 dX1_joined_172
  by_cases c_27 : p0 = 15
  · subst c_27
    refine lv_tableIn (off := 160) (tgt := 161) hx hb dX1_joined_1 (by decide) (by decide) (by decide) (by decide) ?_
    refine lv_iload_n hx hb dX1_joined_161 rfl (lv_at hl 2 rfl) ?_
    refine lv_if_ne (tgt := 169) hx hb dX1_joined_162 (by decide) (fun c_28 => ?_) (fun c_28 => ?_)
    · skip
      refine lv_iload_n hx hb dX1_joined_169 rfl (lv_at hl 1 rfl) ?_
      refine lv_iload_n hx hb dX1_joined_170 rfl (lv_at hl 2 rfl) ?_
      refine lv_idiv hx hb dX1_joined_171 c_28 ?_
      refine lv_topi (fun x_29 ex_29 => ?_)
      have hP9 := hP.sub (ws' := []) [] rfl
      have hD9 := hD.sub (ws' := []) [] (by decide) rfl
      exact W.iret (v := x_29) hx hb hr (fun t ht hW => ⟨⟨x_29, (), rfl, trivial, ⟨by rw [ht]; exact hP9, hD9⟩⟩, hS.F ht⟩) hS.2.2 dX1_joined_172
    · skip
      have h_30 : rg (0) (0) p2 := by have ha := (rg_any p2); have hb_ := (rg_k (x := 0) (c := 0) (by decide)); simp only [rg, fa_lt, fa_le, fa_eq, (by decide : (0 : Int32).toInt = 0)] at ha hb_ c_28; simp only [rg]; omega
      refine lv_iconst (v := 0) hx hb dX1_joined_165 (by decide) ?_
      refine lv_goto (tgt := 172) hx hb dX1_joined_166 (by decide) ?_
      have hP9 := hP.sub (ws' := []) [] rfl
      have hD9 := hD.sub (ws' := []) [] (by decide) rfl
      exact W.iret (v := 0) hx hb hr (fun t ht hW => ⟨⟨0, (), rfl, trivial, ⟨by rw [ht]; exact hP9, hD9⟩⟩, hS.F ht⟩) hS.2.2 dX1_joined_172
  by_cases c_31 : p0 = 16
  · subst c_31
    refine lv_tableIn (off := 160) (tgt := 161) hx hb dX1_joined_1 (by decide) (by decide) (by decide) (by decide) ?_
    refine lv_iload_n hx hb dX1_joined_161 rfl (lv_at hl 2 rfl) ?_
    refine lv_if_ne (tgt := 169) hx hb dX1_joined_162 (by decide) (fun c_32 => ?_) (fun c_32 => ?_)
    · skip
      refine lv_iload_n hx hb dX1_joined_169 rfl (lv_at hl 1 rfl) ?_
      refine lv_iload_n hx hb dX1_joined_170 rfl (lv_at hl 2 rfl) ?_
      refine lv_idiv hx hb dX1_joined_171 c_32 ?_
      refine lv_topi (fun x_33 ex_33 => ?_)
      have hP9 := hP.sub (ws' := []) [] rfl
      have hD9 := hD.sub (ws' := []) [] (by decide) rfl
      exact W.iret (v := x_33) hx hb hr (fun t ht hW => ⟨⟨x_33, (), rfl, trivial, ⟨by rw [ht]; exact hP9, hD9⟩⟩, hS.F ht⟩) hS.2.2 dX1_joined_172
    · skip
      have h_34 : rg (0) (0) p2 := by have ha := (rg_any p2); have hb_ := (rg_k (x := 0) (c := 0) (by decide)); simp only [rg, fa_lt, fa_le, fa_eq, (by decide : (0 : Int32).toInt = 0)] at ha hb_ c_32; simp only [rg]; omega
      refine lv_iconst (v := 0) hx hb dX1_joined_165 (by decide) ?_
      refine lv_goto (tgt := 172) hx hb dX1_joined_166 (by decide) ?_
      have hP9 := hP.sub (ws' := []) [] rfl
      have hD9 := hD.sub (ws' := []) [] (by decide) rfl
      exact W.iret (v := 0) hx hb hr (fun t ht hW => ⟨⟨0, (), rfl, trivial, ⟨by rw [ht]; exact hP9, hD9⟩⟩, hS.F ht⟩) hS.2.2 dX1_joined_172
  by_cases c_35 : p0 = 17
  · subst c_35
    refine lv_tableIn (off := 160) (tgt := 161) hx hb dX1_joined_1 (by decide) (by decide) (by decide) (by decide) ?_
    refine lv_iload_n hx hb dX1_joined_161 rfl (lv_at hl 2 rfl) ?_
    refine lv_if_ne (tgt := 169) hx hb dX1_joined_162 (by decide) (fun c_36 => ?_) (fun c_36 => ?_)
    · skip
      refine lv_iload_n hx hb dX1_joined_169 rfl (lv_at hl 1 rfl) ?_
      refine lv_iload_n hx hb dX1_joined_170 rfl (lv_at hl 2 rfl) ?_
      refine lv_idiv hx hb dX1_joined_171 c_36 ?_
      refine lv_topi (fun x_37 ex_37 => ?_)
      have hP9 := hP.sub (ws' := []) [] rfl
      have hD9 := hD.sub (ws' := []) [] (by decide) rfl
      exact W.iret (v := x_37) hx hb hr (fun t ht hW => ⟨⟨x_37, (), rfl, trivial, ⟨by rw [ht]; exact hP9, hD9⟩⟩, hS.F ht⟩) hS.2.2 dX1_joined_172
    · skip
      have h_38 : rg (0) (0) p2 := by have ha := (rg_any p2); have hb_ := (rg_k (x := 0) (c := 0) (by decide)); simp only [rg, fa_lt, fa_le, fa_eq, (by decide : (0 : Int32).toInt = 0)] at ha hb_ c_36; simp only [rg]; omega
      refine lv_iconst (v := 0) hx hb dX1_joined_165 (by decide) ?_
      refine lv_goto (tgt := 172) hx hb dX1_joined_166 (by decide) ?_
      have hP9 := hP.sub (ws' := []) [] rfl
      have hD9 := hD.sub (ws' := []) [] (by decide) rfl
      exact W.iret (v := 0) hx hb hr (fun t ht hW => ⟨⟨0, (), rfl, trivial, ⟨by rw [ht]; exact hP9, hD9⟩⟩, hS.F ht⟩) hS.2.2 dX1_joined_172
  by_cases c_39 : p0 = 18
  · subst c_39
    refine lv_tableIn (off := 160) (tgt := 161) hx hb dX1_joined_1 (by decide) (by decide) (by decide) (by decide) ?_
    refine lv_iload_n hx hb dX1_joined_161 rfl (lv_at hl 2 rfl) ?_
    refine lv_if_ne (tgt := 169) hx hb dX1_joined_162 (by decide) (fun c_40 => ?_) (fun c_40 => ?_)
    · skip
      refine lv_iload_n hx hb dX1_joined_169 rfl (lv_at hl 1 rfl) ?_
      refine lv_iload_n hx hb dX1_joined_170 rfl (lv_at hl 2 rfl) ?_
      refine lv_idiv hx hb dX1_joined_171 c_40 ?_
      refine lv_topi (fun x_41 ex_41 => ?_)
      have hP9 := hP.sub (ws' := []) [] rfl
      have hD9 := hD.sub (ws' := []) [] (by decide) rfl
      exact W.iret (v := x_41) hx hb hr (fun t ht hW => ⟨⟨x_41, (), rfl, trivial, ⟨by rw [ht]; exact hP9, hD9⟩⟩, hS.F ht⟩) hS.2.2 dX1_joined_172
    · skip
      have h_42 : rg (0) (0) p2 := by have ha := (rg_any p2); have hb_ := (rg_k (x := 0) (c := 0) (by decide)); simp only [rg, fa_lt, fa_le, fa_eq, (by decide : (0 : Int32).toInt = 0)] at ha hb_ c_40; simp only [rg]; omega
      refine lv_iconst (v := 0) hx hb dX1_joined_165 (by decide) ?_
      refine lv_goto (tgt := 172) hx hb dX1_joined_166 (by decide) ?_
      have hP9 := hP.sub (ws' := []) [] rfl
      have hD9 := hD.sub (ws' := []) [] (by decide) rfl
      exact W.iret (v := 0) hx hb hr (fun t ht hW => ⟨⟨0, (), rfl, trivial, ⟨by rw [ht]; exact hP9, hD9⟩⟩, hS.F ht⟩) hS.2.2 dX1_joined_172
  by_cases c_43 : p0 = 19
  · subst c_43
    refine lv_tableIn (off := 160) (tgt := 161) hx hb dX1_joined_1 (by decide) (by decide) (by decide) (by decide) ?_
    refine lv_iload_n hx hb dX1_joined_161 rfl (lv_at hl 2 rfl) ?_
    refine lv_if_ne (tgt := 169) hx hb dX1_joined_162 (by decide) (fun c_44 => ?_) (fun c_44 => ?_)
    · skip
      refine lv_iload_n hx hb dX1_joined_169 rfl (lv_at hl 1 rfl) ?_
      refine lv_iload_n hx hb dX1_joined_170 rfl (lv_at hl 2 rfl) ?_
      refine lv_idiv hx hb dX1_joined_171 c_44 ?_
      refine lv_topi (fun x_45 ex_45 => ?_)
      have hP9 := hP.sub (ws' := []) [] rfl
      have hD9 := hD.sub (ws' := []) [] (by decide) rfl
      exact W.iret (v := x_45) hx hb hr (fun t ht hW => ⟨⟨x_45, (), rfl, trivial, ⟨by rw [ht]; exact hP9, hD9⟩⟩, hS.F ht⟩) hS.2.2 dX1_joined_172
    · skip
      have h_46 : rg (0) (0) p2 := by have ha := (rg_any p2); have hb_ := (rg_k (x := 0) (c := 0) (by decide)); simp only [rg, fa_lt, fa_le, fa_eq, (by decide : (0 : Int32).toInt = 0)] at ha hb_ c_44; simp only [rg]; omega
      refine lv_iconst (v := 0) hx hb dX1_joined_165 (by decide) ?_
      refine lv_goto (tgt := 172) hx hb dX1_joined_166 (by decide) ?_
      have hP9 := hP.sub (ws' := []) [] rfl
      have hD9 := hD.sub (ws' := []) [] (by decide) rfl
      exact W.iret (v := 0) hx hb hr (fun t ht hW => ⟨⟨0, (), rfl, trivial, ⟨by rw [ht]; exact hP9, hD9⟩⟩, hS.F ht⟩) hS.2.2 dX1_joined_172
  by_cases c_47 : p0 = 20
  · subst c_47
    refine lv_tableIn (off := 160) (tgt := 161) hx hb dX1_joined_1 (by decide) (by decide) (by decide) (by decide) ?_
    refine lv_iload_n hx hb dX1_joined_161 rfl (lv_at hl 2 rfl) ?_
    refine lv_if_ne (tgt := 169) hx hb dX1_joined_162 (by decide) (fun c_48 => ?_) (fun c_48 => ?_)
    · skip
      refine lv_iload_n hx hb dX1_joined_169 rfl (lv_at hl 1 rfl) ?_
      refine lv_iload_n hx hb dX1_joined_170 rfl (lv_at hl 2 rfl) ?_
      refine lv_idiv hx hb dX1_joined_171 c_48 ?_
      refine lv_topi (fun x_49 ex_49 => ?_)
      have hP9 := hP.sub (ws' := []) [] rfl
      have hD9 := hD.sub (ws' := []) [] (by decide) rfl
      exact W.iret (v := x_49) hx hb hr (fun t ht hW => ⟨⟨x_49, (), rfl, trivial, ⟨by rw [ht]; exact hP9, hD9⟩⟩, hS.F ht⟩) hS.2.2 dX1_joined_172
    · skip
      have h_50 : rg (0) (0) p2 := by have ha := (rg_any p2); have hb_ := (rg_k (x := 0) (c := 0) (by decide)); simp only [rg, fa_lt, fa_le, fa_eq, (by decide : (0 : Int32).toInt = 0)] at ha hb_ c_48; simp only [rg]; omega
      refine lv_iconst (v := 0) hx hb dX1_joined_165 (by decide) ?_
      refine lv_goto (tgt := 172) hx hb dX1_joined_166 (by decide) ?_
      have hP9 := hP.sub (ws' := []) [] rfl
      have hD9 := hD.sub (ws' := []) [] (by decide) rfl
      exact W.iret (v := 0) hx hb hr (fun t ht hW => ⟨⟨0, (), rfl, trivial, ⟨by rw [ht]; exact hP9, hD9⟩⟩, hS.F ht⟩) hS.2.2 dX1_joined_172
  by_cases c_51 : p0 = 21
  · subst c_51
    refine lv_tableIn (off := 115) (tgt := 116) hx hb dX1_joined_1 (by decide) (by decide) (by decide) (by decide) ?_
    refine lv_iload_n hx hb dX1_joined_116 rfl (lv_at hl 1 rfl) ?_
    refine lv_iload_n hx hb dX1_joined_117 rfl (lv_at hl 2 rfl) ?_
    refine lv_icmp_ge (tgt := 125) hx hb dX1_joined_118 (by decide) (fun c_52 => ?_) (fun c_52 => ?_)
    · skip
      refine lv_iconst (v := 0) hx hb dX1_joined_125 (by decide) ?_
      have hP9 := hP.sub (ws' := []) [] rfl
      have hD9 := hD.sub (ws' := []) [] (by decide) rfl
      exact W.iret (v := 0) hx hb hr (fun t ht hW => ⟨⟨0, (), rfl, trivial, ⟨by rw [ht]; exact hP9, hD9⟩⟩, hS.F ht⟩) hS.2.2 dX1_joined_126
    · skip
      have h_53 : rg (-2147483648) (2147483646) p1 := by have ha := (rg_any p1); have hb_ := (rg_any p2); simp only [rg, fa_lt, fa_le, fa_eq] at ha hb_ c_52; simp only [rg]; omega
      have h_54 : rg (-2147483647) (2147483647) p2 := by have ha := (rg_any p1); have hb_ := (rg_any p2); simp only [rg, fa_lt, fa_le, fa_eq] at ha hb_ c_52; simp only [rg]; omega
      refine lv_iconst (v := 1) hx hb dX1_joined_121 (by decide) ?_
      refine lv_goto (tgt := 126) hx hb dX1_joined_122 (by decide) ?_
      have hP9 := hP.sub (ws' := []) [] rfl
      have hD9 := hD.sub (ws' := []) [] (by decide) rfl
      exact W.iret (v := 1) hx hb hr (fun t ht hW => ⟨⟨1, (), rfl, trivial, ⟨by rw [ht]; exact hP9, hD9⟩⟩, hS.F ht⟩) hS.2.2 dX1_joined_126
  by_cases c_55 : p0 = 22
  · subst c_55
    refine lv_tableIn (off := 126) (tgt := 127) hx hb dX1_joined_1 (by decide) (by decide) (by decide) (by decide) ?_
    refine lv_iload_n hx hb dX1_joined_127 rfl (lv_at hl 1 rfl) ?_
    refine lv_iload_n hx hb dX1_joined_128 rfl (lv_at hl 2 rfl) ?_
    refine lv_icmp_le (tgt := 136) hx hb dX1_joined_129 (by decide) (fun c_56 => ?_) (fun c_56 => ?_)
    · skip
      refine lv_iconst (v := 0) hx hb dX1_joined_136 (by decide) ?_
      have hP9 := hP.sub (ws' := []) [] rfl
      have hD9 := hD.sub (ws' := []) [] (by decide) rfl
      exact W.iret (v := 0) hx hb hr (fun t ht hW => ⟨⟨0, (), rfl, trivial, ⟨by rw [ht]; exact hP9, hD9⟩⟩, hS.F ht⟩) hS.2.2 dX1_joined_137
    · skip
      have h_57 : rg (-2147483647) (2147483647) p1 := by have ha := (rg_any p1); have hb_ := (rg_any p2); simp only [rg, fa_lt, fa_le, fa_eq] at ha hb_ c_56; simp only [rg]; omega
      have h_58 : rg (-2147483648) (2147483646) p2 := by have ha := (rg_any p1); have hb_ := (rg_any p2); simp only [rg, fa_lt, fa_le, fa_eq] at ha hb_ c_56; simp only [rg]; omega
      refine lv_iconst (v := 1) hx hb dX1_joined_132 (by decide) ?_
      refine lv_goto (tgt := 137) hx hb dX1_joined_133 (by decide) ?_
      have hP9 := hP.sub (ws' := []) [] rfl
      have hD9 := hD.sub (ws' := []) [] (by decide) rfl
      exact W.iret (v := 1) hx hb hr (fun t ht hW => ⟨⟨1, (), rfl, trivial, ⟨by rw [ht]; exact hP9, hD9⟩⟩, hS.F ht⟩) hS.2.2 dX1_joined_137
  by_cases c_59 : p0 = 23
  · subst c_59
    refine lv_tableIn (off := 137) (tgt := 138) hx hb dX1_joined_1 (by decide) (by decide) (by decide) (by decide) ?_
    refine lv_iload_n hx hb dX1_joined_138 rfl (lv_at hl 1 rfl) ?_
    refine lv_iload_n hx hb dX1_joined_139 rfl (lv_at hl 2 rfl) ?_
    refine lv_icmp_ne (tgt := 147) hx hb dX1_joined_140 (by decide) (fun c_60 => ?_) (fun c_60 => ?_)
    · skip
      refine lv_iconst (v := 0) hx hb dX1_joined_147 (by decide) ?_
      have hP9 := hP.sub (ws' := []) [] rfl
      have hD9 := hD.sub (ws' := []) [] (by decide) rfl
      exact W.iret (v := 0) hx hb hr (fun t ht hW => ⟨⟨0, (), rfl, trivial, ⟨by rw [ht]; exact hP9, hD9⟩⟩, hS.F ht⟩) hS.2.2 dX1_joined_148
    · skip
      refine lv_iconst (v := 1) hx hb dX1_joined_143 (by decide) ?_
      refine lv_goto (tgt := 148) hx hb dX1_joined_144 (by decide) ?_
      have hP9 := hP.sub (ws' := []) [] rfl
      have hD9 := hD.sub (ws' := []) [] (by decide) rfl
      exact W.iret (v := 1) hx hb hr (fun t ht hW => ⟨⟨1, (), rfl, trivial, ⟨by rw [ht]; exact hP9, hD9⟩⟩, hS.F ht⟩) hS.2.2 dX1_joined_148
  by_cases c_61 : p0 = 24
  · subst c_61
    refine lv_tableIn (off := 148) (tgt := 149) hx hb dX1_joined_1 (by decide) (by decide) (by decide) (by decide) ?_
    refine lv_iload_n hx hb dX1_joined_149 rfl (lv_at hl 1 rfl) ?_
    refine lv_iload_n hx hb dX1_joined_150 rfl (lv_at hl 2 rfl) ?_
    refine lv_iadd hx hb dX1_joined_151 ?_
    refine lv_topi (fun x_62 ex_62 => ?_)
    have hP9 := hP.sub (ws' := []) [] rfl
    have hD9 := hD.sub (ws' := []) [] (by decide) rfl
    exact W.iret (v := x_62) hx hb hr (fun t ht hW => ⟨⟨x_62, (), rfl, trivial, ⟨by rw [ht]; exact hP9, hD9⟩⟩, hS.F ht⟩) hS.2.2 dX1_joined_152
  by_cases c_63 : p0 = 25
  · subst c_63
    refine lv_tableIn (off := 152) (tgt := 153) hx hb dX1_joined_1 (by decide) (by decide) (by decide) (by decide) ?_
    refine lv_iload_n hx hb dX1_joined_153 rfl (lv_at hl 1 rfl) ?_
    refine lv_iload_n hx hb dX1_joined_154 rfl (lv_at hl 2 rfl) ?_
    refine lv_isub hx hb dX1_joined_155 ?_
    refine lv_topi (fun x_64 ex_64 => ?_)
    have hP9 := hP.sub (ws' := []) [] rfl
    have hD9 := hD.sub (ws' := []) [] (by decide) rfl
    exact W.iret (v := x_64) hx hb hr (fun t ht hW => ⟨⟨x_64, (), rfl, trivial, ⟨by rw [ht]; exact hP9, hD9⟩⟩, hS.F ht⟩) hS.2.2 dX1_joined_156
  by_cases c_65 : p0 = 26
  · subst c_65
    refine lv_tableIn (off := 156) (tgt := 157) hx hb dX1_joined_1 (by decide) (by decide) (by decide) (by decide) ?_
    refine lv_iload_n hx hb dX1_joined_157 rfl (lv_at hl 1 rfl) ?_
    refine lv_iload_n hx hb dX1_joined_158 rfl (lv_at hl 2 rfl) ?_
    refine lv_imul hx hb dX1_joined_159 ?_
    refine lv_topi (fun x_66 ex_66 => ?_)
    have hP9 := hP.sub (ws' := []) [] rfl
    have hD9 := hD.sub (ws' := []) [] (by decide) rfl
    exact W.iret (v := x_66) hx hb hr (fun t ht hW => ⟨⟨x_66, (), rfl, trivial, ⟨by rw [ht]; exact hP9, hD9⟩⟩, hS.F ht⟩) hS.2.2 dX1_joined_160
  refine lv_tableOut (tgt := 161) hx hb dX1_joined_1 (by have ha := (rg_any p0); simp only [rg, fa_eq, (by decide : (9 : Int32).toInt = 9), (by decide : (10 : Int32).toInt = 10), (by decide : (11 : Int32).toInt = 11), (by decide : (12 : Int32).toInt = 12), (by decide : (13 : Int32).toInt = 13), (by decide : (14 : Int32).toInt = 14), (by decide : (15 : Int32).toInt = 15), (by decide : (16 : Int32).toInt = 16), (by decide : (17 : Int32).toInt = 17), (by decide : (18 : Int32).toInt = 18), (by decide : (19 : Int32).toInt = 19), (by decide : (20 : Int32).toInt = 20), (by decide : (21 : Int32).toInt = 21), (by decide : (22 : Int32).toInt = 22), (by decide : (23 : Int32).toInt = 23), (by decide : (24 : Int32).toInt = 24), (by decide : (25 : Int32).toInt = 25), (by decide : (26 : Int32).toInt = 26)] at ha c_1 c_6 c_11 c_15 c_19 c_23 c_27 c_31 c_35 c_39 c_43 c_47 c_51 c_55 c_59 c_61 c_63 c_65; omega) (by decide) ?_
  refine lv_iload_n hx hb dX1_joined_161 rfl (lv_at hl 2 rfl) ?_
  refine lv_if_ne (tgt := 169) hx hb dX1_joined_162 (by decide) (fun c_67 => ?_) (fun c_67 => ?_)
  · skip
    refine lv_iload_n hx hb dX1_joined_169 rfl (lv_at hl 1 rfl) ?_
    refine lv_iload_n hx hb dX1_joined_170 rfl (lv_at hl 2 rfl) ?_
    refine lv_idiv hx hb dX1_joined_171 c_67 ?_
    refine lv_topi (fun x_68 ex_68 => ?_)
    have hP9 := hP.sub (ws' := []) [] rfl
    have hD9 := hD.sub (ws' := []) [] (by decide) rfl
    exact W.iret (v := x_68) hx hb hr (fun t ht hW => ⟨⟨x_68, (), rfl, trivial, ⟨by rw [ht]; exact hP9, hD9⟩⟩, hS.F ht⟩) hS.2.2 dX1_joined_172
  · skip
    have h_69 : rg (0) (0) p2 := by have ha := (rg_any p2); have hb_ := (rg_k (x := 0) (c := 0) (by decide)); simp only [rg, fa_lt, fa_le, fa_eq, (by decide : (0 : Int32).toInt = 0)] at ha hb_ c_67; simp only [rg]; omega
    refine lv_iconst (v := 0) hx hb dX1_joined_165 (by decide) ?_
    refine lv_goto (tgt := 172) hx hb dX1_joined_166 (by decide) ?_
    have hP9 := hP.sub (ws' := []) [] rfl
    have hD9 := hD.sub (ws' := []) [] (by decide) rfl
    exact W.iret (v := 0) hx hb hr (fun t ht hW => ⟨⟨0, (), rfl, trivial, ⟨by rw [ht]; exact hP9, hD9⟩⟩, hS.F ht⟩) hS.2.2 dX1_joined_172
def v_s_X6_named : List Cond := Cond.code yX6_named cX6_named 4 (some .int) :: ([Cond.fieldLink RX6 35 "MayRings$Valley" "houses" "I", Cond.fieldLink RX6 9 "MayRings$Valley" "names" "[J"] ++ (wsX60 ++ ([])))
theorem k_s_X6_named : GoodIn lw_tbl v_s_X6_named := gd_c (List.mem_of_getElem? (i := 714) (by decide +kernel)) rfl (goodIn_app (gd_c (List.mem_of_getElem? (i := 224) (by decide +kernel)) rfl (gd_c (List.mem_of_getElem? (i := 210) (by decide +kernel)) rfl (gd_nil))) (goodIn_app kfX6 (gd_nil)))
set_option maxHeartbeats 2000000 in
set_option maxRecDepth 100000 in
theorem c_s_X6_named (l : Launch) (dC : Nat → ClassId) (dI : Nat → Nat → Nat) (cB cI cJ cZ cP : ClassId) (h0 : Nat) (h1 : Nat) (g0 : Nat → Int64) (h2 : Nat) (h3 : Nat) (h4 : Nat) (h5 : Nat) (h6 : Nat) (a3 : Int32) (ha3 : rg (0) (9) a3) (a4 : Int32) (a5 : Int32) (a6 : Int32) (y0 : Int64) (sz : Nat) : Met l yX6_named v_s_X6_named ({ frames := 0, cells := 0, slots := 0, locals := 0 }) (va_Pc [.ref h0, .long y0] (fun U => U.heap.size = sz ∧ va_P (dC, dI) vwCl [(h0, .inr (6, [.ref h1, .ref h2, .ref h3, .ref h4, .ref h5, .ref h6, .int a3, .int a4, .int a5, .int a6])), (h1, .inl (cJ, 9, .inr (.inl g0)))] U.heap ∧ va_K (dC, dI) vwCl (ty5 cB cI cJ cZ cP) U ∧ va_D (fun _ => True) [(h0, .inr (6, [.ref h1, .ref h2, .ref h3, .ref h4, .ref h5, .ref h6, .int a3, .int a4, .int a5, .int a6])), (h1, .inl (cJ, 9, .inr (.inl g0)))])) (va_Qi (fun (r : Int32) (u9 : Unit) => rg (-1) (8) r) (fun u9 t => va_P (dC, dI) vwCl [(h0, .inr (6, [.ref h1, .ref h2, .ref h3, .ref h4, .ref h5, .ref h6, .int a3, .int a4, .int a5, .int a6])), (h1, .inl (cJ, 9, .inr (.inl g0)))] t.heap ∧ va_D (va_A [(h0, .inr (6, [.ref h1, .ref h2, .ref h3, .ref h4, .ref h5, .ref h6, .int a3, .int a4, .int a5, .int a6])), (h1, .inl (cJ, 9, .inr (.inl g0)))] sz) [(h0, .inr (6, [.ref h1, .ref h2, .ref h3, .ref h4, .ref h5, .ref h6, .int a3, .int a4, .int a5, .int a6])), (h1, .inl (cJ, 9, .inr (.inl g0)))]) (va_A [(h0, .inr (6, [.ref h1, .ref h2, .ref h3, .ref h4, .ref h5, .ref h6, .int a3, .int a4, .int a5, .int a6])), (h1, .inl (cJ, 9, .inr (.inl g0)))] sz)) 0 0 (va_A [(h0, .inr (6, [.ref h1, .ref h2, .ref h3, .ref h4, .ref h5, .ref h6, .int a3, .int a4, .int a5, .int a6])), (h1, .inl (cJ, 9, .inr (.inl g0)))] sz) := by
  refine Met.ofW (cc := cX6_named) (maxL := 4) (ret := (some .int)) (by decide) rfl ?_
  intro p e s m args below meth c s₁ B hml hv
  obtain ⟨rfl, hsz, hP, hK, hD0⟩ := hv
  have hx := B.exec
  have hb := B.bytes
  have hr := B.returns
  have hts := atoms_spec (ws := v_s_X6_named) B.pre
  have hown : s.vm.findClass RX6 = some m.cls := findClass_of_methodNamed B.named
  have hlocks := B.notSynchronized
  have hinX6 : ∀ w ∈ wsX60, w ∈ v_s_X6_named := fun _ h => List.mem_cons_of_mem _ (List.mem_append_right _ (List.mem_append_left _ h))
  subst hsz
  have hD := hD0.self (sz := s.heap.size)
  generalize hAe : va_A [(h0, .inr (6, [.ref h1, .ref h2, .ref h3, .ref h4, .ref h5, .ref h6, .int a3, .int a4, .int a5, .int a6])), (h1, .inl (cJ, 9, .inr (.inl g0)))] s.heap.size = A at hD ⊢
  have hA : ∀ q : Nat, s.heap.size ≤ q → A q := fun q h => by rw [← hAe]; exact Or.inr h
  have hP : va_P (dC, dI) vwCl [(h0, .inr (6, [.ref h1, .ref h2, .ref h3, .ref h4, .ref h5, .ref h6, .int a3, .int a4, .int a5, .int a6])), (h1, .inl (cJ, 9, .inr (.inl g0)))] s.heap := hP
  have hl := lv_entry ([.ref h0, .long y0]) (n := 4) (Nat.le_of_ble_eq_true rfl)
  rw [lg_entry_eq]
  generalize (lg_sl ([.ref h0, .long y0]) ++ List.replicate (4 - (lg_sl ([.ref h0, .long y0])).length) Slot.unset).toArray = ls at hl ⊢
  have hl : lv_has ls 4 [(0, .ref h0), (1, .long y0)] := hl
  refine W_gen (A := A) hP (fun H locs hP hS => ?_)
  refine lv_iconst (v := 0) hx hb dX6_named_0 (by decide) ?_
  refine lv_istore_n (lv' := [(3, .int 0), (0, .ref h0), (1, .long y0)]) hx hb dX6_named_1 rfl hl (by decide) rfl (fun ls hl => ?_)
  refine W_loopM (σ := Int32) (fun u H locs ls => va_P (dC, dI) vwCl [(h0, .inr (6, [.ref h1, .ref h2, .ref h3, .ref h4, .ref h5, .ref h6, .int a3, .int a4, .int a5, .int a6])), (h1, .inl (cJ, 9, .inr (.inl g0)))] H ∧ va_D A [(h0, .inr (6, [.ref h1, .ref h2, .ref h3, .ref h4, .ref h5, .ref h6, .int a3, .int a4, .int a5, .int a6])), (h1, .inl (cJ, 9, .inr (.inl g0)))] ∧ va_S A s.heap H locs ∧ lv_has ls 4 [(3, .int u), (0, .ref h0), (1, .long y0)] ∧ rg (0) (9) u) (fun u => ((9) - u.toInt).toNat) 2 [] ?_ (0) H locs ls ⟨hP, hD, hS, hl, (rg_mono (rg_k (x := 0) (c := 0) (by decide)) (by decide) (by decide))⟩
  rintro x_80 H locs ls ⟨hP, hD, hS, hl, hx_80⟩ ih_89
  have hP : va_P (dC, dI) vwCl [(h0, .inr (6, [.ref h1, .ref h2, .ref h3, .ref h4, .ref h5, .ref h6, .int a3, .int a4, .int a5, .int a6])), (h1, .inl (cJ, 9, .inr (.inl g0)))] H := hP
  have hD : va_D A [(h0, .inr (6, [.ref h1, .ref h2, .ref h3, .ref h4, .ref h5, .ref h6, .int a3, .int a4, .int a5, .int a6])), (h1, .inl (cJ, 9, .inr (.inl g0)))] := hD
  have hl : lv_has ls 4 [(3, .int x_80), (0, .ref h0), (1, .long y0)] := hl
  have hx_80 : rg (0) (9) x_80 := hx_80
  refine lv_iload_n hx hb dX6_named_2 rfl (lv_at hl 0 rfl) ?_
  refine lv_aload_n hx hb dX6_named_3 rfl (lv_at hl 1 rfl) ?_
  refine va_get (D := (dC, dI)) (ci := 6) (v := .int a3) (C := RX6) (T := TX6) (N := 10) hx hb hts hinX6 hown hK hP 0 rfl rfl 6 (by decide) (hts (.fieldLink RX6 35 "MayRings$Valley" "houses" "I") (List.mem_of_getElem? (i := 1) rfl)) (fun _ h9 => h9) rfl dX6_named_4 ?_
  refine lv_icmp_ge (tgt := 29) hx hb dX6_named_7 (by decide) (fun c_90 => ?_) (fun c_90 => ?_)
  · skip
    refine lv_iconst (v := (-1)) hx hb dX6_named_29 (by decide) ?_
    have hP9 := hP.sub (ws' := [(h0, .inr (6, [.ref h1, .ref h2, .ref h3, .ref h4, .ref h5, .ref h6, .int a3, .int a4, .int a5, .int a6])), (h1, .inl (cJ, 9, .inr (.inl g0)))]) [0, 1] rfl
    have hD9 := hD.sub (ws' := [(h0, .inr (6, [.ref h1, .ref h2, .ref h3, .ref h4, .ref h5, .ref h6, .int a3, .int a4, .int a5, .int a6])), (h1, .inl (cJ, 9, .inr (.inl g0)))]) [0, 1] (by decide) rfl
    exact W.iret (v := (-1)) hx hb hr (fun t ht hW => ⟨⟨(-1), (), rfl, (rg_mono (rg_k (x := (-1)) (c := -1) (by decide)) (by decide) (by decide)), ⟨by rw [ht]; exact hP9, hD9⟩⟩, hS.F ht⟩) hS.2.2 dX6_named_30
  · skip
    have h_91 : rg (0) (8) x_80 := by have ha := hx_80; have hb_ := ha3; simp only [rg, fa_lt, fa_le, fa_eq] at ha hb_ c_90; simp only [rg]; omega
    have h_92 : rg (1) (9) a3 := by have ha := hx_80; have hb_ := ha3; simp only [rg, fa_lt, fa_le, fa_eq] at ha hb_ c_90; simp only [rg]; omega
    refine lv_aload_n hx hb dX6_named_10 rfl (lv_at hl 1 rfl) ?_
    refine va_get (D := (dC, dI)) (ci := 6) (v := .ref h1) (C := RX6) (T := TX6) (N := 10) hx hb hts hinX6 hown hK hP 0 rfl rfl 0 (by decide) (hts (.fieldLink RX6 9 "MayRings$Valley" "names" "[J") (List.mem_of_getElem? (i := 2) rfl)) (fun _ h9 => h9) rfl dX6_named_11 ?_
    refine lv_iload_n hx hb dX6_named_14 rfl (lv_at hl 0 rfl) ?_
    refine va_lald hx hb hK hP 1 2 rfl rfl (rg_in (n := 9) (rg_mono h_91 (by decide) (by decide))) dX6_named_15 ?_
    refine lv_topl (fun y_93 ey_93 => ?_)
    clear ey_93
    refine lv_lload_n hx hb dX6_named_16 rfl (lv_at hl 2 rfl) ?_
    refine W.lcmp hx hb dX6_named_17 ?_
    refine lv_topi (fun x_94 ex_94 => ?_)
    clear ex_94
    refine lv_if_ne (tgt := 23) hx hb dX6_named_18 (by decide) (fun c_95 => ?_) (fun c_95 => ?_)
    · skip
      obtain ⟨x_96, ex_96⟩ : ∃ y : Int32, y = x_80 + Int32.ofInt (1) := ⟨_, rfl⟩
      have hx_96 : rg (1) (9) x_96 := by rw [ex_96]; exact rg_mono (rg_add h_91 (rg_k (x := Int32.ofInt (1)) (c := 1) (by decide)) (by decide) (by decide)) (by decide) (by decide)
      have qx_96 : x_96.toInt = x_80.toInt + (1) := by rw [ex_96]; exact rg_addE h_91 (rg_k (x := Int32.ofInt (1)) (c := 1) (by decide)) (by decide) (by decide) (by decide)
      refine lv_iinc (v := x_96) (lv' := [(3, .int x_96), (0, .ref h0), (1, .long y0)]) hx hb dX6_named_23 hl (k := 0) rfl (ex_96.symm) (by decide) rfl (fun ls hl => ?_)
      clear ex_96
      refine lv_goto (tgt := 2) hx hb dX6_named_26 (by decide) ?_
      exact ih_89 (x_96) H locs ls ⟨hP.sub (ws' := [(h0, .inr (6, [.ref h1, .ref h2, .ref h3, .ref h4, .ref h5, .ref h6, .int a3, .int a4, .int a5, .int a6])), (h1, .inl (cJ, 9, .inr (.inl g0)))]) [0, 1] rfl, hD.sub (ws' := [(h0, .inr (6, [.ref h1, .ref h2, .ref h3, .ref h4, .ref h5, .ref h6, .int a3, .int a4, .int a5, .int a6])), (h1, .inl (cJ, 9, .inr (.inl g0)))]) [0, 1] (by decide) rfl, hS, lv_sub hl [0, 1, 2] rfl, (rg_mono hx_96 (by decide) (by decide))⟩ (by show ((9) - x_96.toInt).toNat < ((9) - x_80.toInt).toNat; have ha := h_91; simp only [rg] at ha; omega)
    · skip
      have h_97 : rg (0) (0) x_94 := by have ha := (rg_any x_94); have hb_ := (rg_k (x := 0) (c := 0) (by decide)); simp only [rg, fa_lt, fa_le, fa_eq, (by decide : (0 : Int32).toInt = 0)] at ha hb_ c_95; simp only [rg]; omega
      refine lv_iload_n hx hb dX6_named_21 rfl (lv_at hl 0 rfl) ?_
      have hP9 := hP.sub (ws' := [(h0, .inr (6, [.ref h1, .ref h2, .ref h3, .ref h4, .ref h5, .ref h6, .int a3, .int a4, .int a5, .int a6])), (h1, .inl (cJ, 9, .inr (.inl g0)))]) [0, 1] rfl
      have hD9 := hD.sub (ws' := [(h0, .inr (6, [.ref h1, .ref h2, .ref h3, .ref h4, .ref h5, .ref h6, .int a3, .int a4, .int a5, .int a6])), (h1, .inl (cJ, 9, .inr (.inl g0)))]) [0, 1] (by decide) rfl
      exact W.iret (v := x_80) hx hb hr (fun t ht hW => ⟨⟨x_80, (), rfl, (rg_mono h_91 (by decide) (by decide)), ⟨by rw [ht]; exact hP9, hD9⟩⟩, hS.F ht⟩) hS.2.2 dX6_named_22
def v_s_X8_isTold : List Cond := Cond.code yX8_isTold cX8_isTold 2 (some .boolean) :: ([Cond.fieldLink RX8 27 "MayRings" "ground" "LMayRings$Valley;", Cond.fieldLink RX8 108 "MayRings$Valley" "houses" "I"] ++ (wsX60 ++ (wsX80 ++ ([]))))
theorem k_s_X8_isTold : GoodIn lw_tbl v_s_X8_isTold := gd_c (List.mem_of_getElem? (i := 844) (by decide +kernel)) rfl (goodIn_app (gd_c (List.mem_of_getElem? (i := 534) (by decide +kernel)) rfl (gd_c (List.mem_of_getElem? (i := 225) (by decide +kernel)) rfl (gd_nil))) (goodIn_app kfX6 (goodIn_app kfX8 (gd_nil))))
set_option maxHeartbeats 2000000 in
set_option maxRecDepth 100000 in
theorem c_s_X8_isTold (l : Launch) (dC : Nat → ClassId) (dI : Nat → Nat → Nat) (cB cI cJ cZ cP : ClassId) (h0 : Nat) (h1 : Nat) (a0 : Int32) (h2 : Nat) (h17 : Nat) (h18 : Nat) (h19 : Nat) (h20 : Nat) (h21 : Nat) (h22 : Nat) (h23 : Nat) (a18 : Int32) (ha18 : rg (0) (9) a18) (a19 : Int32) (a20 : Int32) (a21 : Int32) (h27 : Nat) (h31 : Nat) (h44 : Nat) (h51 : Nat) (h53 : Nat) (h55 : Nat) (h62 : Nat) (h69 : Nat) (p0 : Int32) (sz : Nat) : Met l yX8_isTold v_s_X8_isTold ({ frames := 0, cells := 0, slots := 0, locals := 0 }) (va_Pc [.ref h0, .int p0] (fun U => U.heap.size = sz ∧ va_P (dC, dI) vwCl [(h0, .inr (8, [.ref h1, .int a0, .ref h2, .ref h17, .ref h27, .ref h31, .ref h44, .ref h51, .ref h53, .ref h55, .ref h62, .ref h69])), (h17, .inr (6, [.ref h18, .ref h19, .ref h20, .ref h21, .ref h22, .ref h23, .int a18, .int a19, .int a20, .int a21]))] U.heap ∧ va_K (dC, dI) vwCl (ty5 cB cI cJ cZ cP) U ∧ va_D (fun _ => True) [(h0, .inr (8, [.ref h1, .int a0, .ref h2, .ref h17, .ref h27, .ref h31, .ref h44, .ref h51, .ref h53, .ref h55, .ref h62, .ref h69])), (h17, .inr (6, [.ref h18, .ref h19, .ref h20, .ref h21, .ref h22, .ref h23, .int a18, .int a19, .int a20, .int a21]))])) (va_Qi (fun (r : Int32) (u9 : Unit) => rg (0) (1) r ∧ (rg (1) (1) r → rg (0) (8) p0)) (fun u9 t => va_P (dC, dI) vwCl [(h0, .inr (8, [.ref h1, .int a0, .ref h2, .ref h17, .ref h27, .ref h31, .ref h44, .ref h51, .ref h53, .ref h55, .ref h62, .ref h69])), (h17, .inr (6, [.ref h18, .ref h19, .ref h20, .ref h21, .ref h22, .ref h23, .int a18, .int a19, .int a20, .int a21]))] t.heap ∧ va_D (va_A [(h0, .inr (8, [.ref h1, .int a0, .ref h2, .ref h17, .ref h27, .ref h31, .ref h44, .ref h51, .ref h53, .ref h55, .ref h62, .ref h69])), (h17, .inr (6, [.ref h18, .ref h19, .ref h20, .ref h21, .ref h22, .ref h23, .int a18, .int a19, .int a20, .int a21]))] sz) [(h0, .inr (8, [.ref h1, .int a0, .ref h2, .ref h17, .ref h27, .ref h31, .ref h44, .ref h51, .ref h53, .ref h55, .ref h62, .ref h69])), (h17, .inr (6, [.ref h18, .ref h19, .ref h20, .ref h21, .ref h22, .ref h23, .int a18, .int a19, .int a20, .int a21]))]) (va_A [(h0, .inr (8, [.ref h1, .int a0, .ref h2, .ref h17, .ref h27, .ref h31, .ref h44, .ref h51, .ref h53, .ref h55, .ref h62, .ref h69])), (h17, .inr (6, [.ref h18, .ref h19, .ref h20, .ref h21, .ref h22, .ref h23, .int a18, .int a19, .int a20, .int a21]))] sz)) 0 0 (va_A [(h0, .inr (8, [.ref h1, .int a0, .ref h2, .ref h17, .ref h27, .ref h31, .ref h44, .ref h51, .ref h53, .ref h55, .ref h62, .ref h69])), (h17, .inr (6, [.ref h18, .ref h19, .ref h20, .ref h21, .ref h22, .ref h23, .int a18, .int a19, .int a20, .int a21]))] sz) := by
  refine Met.ofW (cc := cX8_isTold) (maxL := 2) (ret := (some .boolean)) (by decide) rfl ?_
  intro p e s m args below meth c s₁ B hml hv
  obtain ⟨rfl, hsz, hP, hK, hD0⟩ := hv
  have hx := B.exec
  have hb := B.bytes
  have hr := B.returns
  have hts := atoms_spec (ws := v_s_X8_isTold) B.pre
  have hown : s.vm.findClass RX8 = some m.cls := findClass_of_methodNamed B.named
  have hlocks := B.notSynchronized
  have hinX6 : ∀ w ∈ wsX60, w ∈ v_s_X8_isTold := fun _ h => List.mem_cons_of_mem _ (List.mem_append_right _ (List.mem_append_left _ h))
  have hinX8 : ∀ w ∈ wsX80, w ∈ v_s_X8_isTold := fun _ h => List.mem_cons_of_mem _ (List.mem_append_right _ (List.mem_append_right _ (List.mem_append_left _ h)))
  subst hsz
  have hD := hD0.self (sz := s.heap.size)
  generalize hAe : va_A [(h0, .inr (8, [.ref h1, .int a0, .ref h2, .ref h17, .ref h27, .ref h31, .ref h44, .ref h51, .ref h53, .ref h55, .ref h62, .ref h69])), (h17, .inr (6, [.ref h18, .ref h19, .ref h20, .ref h21, .ref h22, .ref h23, .int a18, .int a19, .int a20, .int a21]))] s.heap.size = A at hD ⊢
  have hA : ∀ q : Nat, s.heap.size ≤ q → A q := fun q h => by rw [← hAe]; exact Or.inr h
  have hP : va_P (dC, dI) vwCl [(h0, .inr (8, [.ref h1, .int a0, .ref h2, .ref h17, .ref h27, .ref h31, .ref h44, .ref h51, .ref h53, .ref h55, .ref h62, .ref h69])), (h17, .inr (6, [.ref h18, .ref h19, .ref h20, .ref h21, .ref h22, .ref h23, .int a18, .int a19, .int a20, .int a21]))] s.heap := hP
  have hl := lv_entry ([.ref h0, .int p0]) (n := 2) (Nat.le_of_ble_eq_true rfl)
  rw [lg_entry_eq]
  generalize (lg_sl ([.ref h0, .int p0]) ++ List.replicate (2 - (lg_sl ([.ref h0, .int p0])).length) Slot.unset).toArray = ls at hl ⊢
  have hl : lv_has ls 2 [(0, .ref h0), (1, .int p0)] := hl
  refine W_gen (A := A) hP (fun H locs hP hS => ?_)
  refine lv_iload_n hx hb dX8_isTold_0 rfl (lv_at hl 1 rfl) ?_
  refine lv_if_lt (tgt := 19) hx hb dX8_isTold_1 (by decide) (fun c_1 => ?_) (fun c_1 => ?_)
  · skip
    have h_2 : rg (-2147483648) (-1) p0 := by have ha := (rg_any p0); have hb_ := (rg_k (x := 0) (c := 0) (by decide)); simp only [rg, fa_lt, fa_le, fa_eq, (by decide : (0 : Int32).toInt = 0)] at ha hb_ c_1; simp only [rg]; omega
    refine lv_iconst (v := 0) hx hb dX8_isTold_19 (by decide) ?_
    have hP9 := hP.sub (ws' := [(h0, .inr (8, [.ref h1, .int a0, .ref h2, .ref h17, .ref h27, .ref h31, .ref h44, .ref h51, .ref h53, .ref h55, .ref h62, .ref h69])), (h17, .inr (6, [.ref h18, .ref h19, .ref h20, .ref h21, .ref h22, .ref h23, .int a18, .int a19, .int a20, .int a21]))]) [0, 1] rfl
    have hD9 := hD.sub (ws' := [(h0, .inr (8, [.ref h1, .int a0, .ref h2, .ref h17, .ref h27, .ref h31, .ref h44, .ref h51, .ref h53, .ref h55, .ref h62, .ref h69])), (h17, .inr (6, [.ref h18, .ref h19, .ref h20, .ref h21, .ref h22, .ref h23, .int a18, .int a19, .int a20, .int a21]))]) [0, 1] (by decide) rfl
    exact W.zret (v := 0) hx hb hr (rfl) (fun t ht hW => ⟨⟨0, (), rfl, ⟨(rg_mono (rg_k (x := 0) (c := 0) (by decide)) (by decide) (by decide)), fun hq => (rg_off (rg_k (x := 0) (c := 0) (by decide)) hq (by decide)).elim⟩, ⟨by rw [ht]; exact hP9, hD9⟩⟩, hS.F ht⟩) hS.2.2 dX8_isTold_20
  · skip
    have h_3 : rg (0) (2147483647) p0 := by have ha := (rg_any p0); have hb_ := (rg_k (x := 0) (c := 0) (by decide)); simp only [rg, fa_lt, fa_le, fa_eq, (by decide : (0 : Int32).toInt = 0)] at ha hb_ c_1; simp only [rg]; omega
    refine lv_iload_n hx hb dX8_isTold_4 rfl (lv_at hl 1 rfl) ?_
    refine lv_aload_n hx hb dX8_isTold_5 rfl (lv_at hl 0 rfl) ?_
    refine va_get (D := (dC, dI)) (ci := 8) (v := .ref h17) (C := RX8) (T := TX8) (N := 12) hx hb hts hinX8 hown hK hP 0 rfl rfl 3 (by decide) (hts (.fieldLink RX8 27 "MayRings" "ground" "LMayRings$Valley;") (List.mem_of_getElem? (i := 1) rfl)) (fun _ h9 => h9) rfl dX8_isTold_6 ?_
    refine va_get (D := (dC, dI)) (ci := 6) (v := .int a18) (C := RX6) (T := TX6) (N := 10) hx hb hts hinX6 hown hK hP 1 rfl rfl 6 (by decide) (hts (.fieldLink RX8 108 "MayRings$Valley" "houses" "I") (List.mem_of_getElem? (i := 2) rfl)) (fun _ h9 => h9) rfl dX8_isTold_9 ?_
    refine lv_icmp_ge (tgt := 19) hx hb dX8_isTold_12 (by decide) (fun c_4 => ?_) (fun c_4 => ?_)
    · skip
      refine lv_iconst (v := 0) hx hb dX8_isTold_19 (by decide) ?_
      have hP9 := hP.sub (ws' := [(h0, .inr (8, [.ref h1, .int a0, .ref h2, .ref h17, .ref h27, .ref h31, .ref h44, .ref h51, .ref h53, .ref h55, .ref h62, .ref h69])), (h17, .inr (6, [.ref h18, .ref h19, .ref h20, .ref h21, .ref h22, .ref h23, .int a18, .int a19, .int a20, .int a21]))]) [0, 1] rfl
      have hD9 := hD.sub (ws' := [(h0, .inr (8, [.ref h1, .int a0, .ref h2, .ref h17, .ref h27, .ref h31, .ref h44, .ref h51, .ref h53, .ref h55, .ref h62, .ref h69])), (h17, .inr (6, [.ref h18, .ref h19, .ref h20, .ref h21, .ref h22, .ref h23, .int a18, .int a19, .int a20, .int a21]))]) [0, 1] (by decide) rfl
      exact W.zret (v := 0) hx hb hr (rfl) (fun t ht hW => ⟨⟨0, (), rfl, ⟨(rg_mono (rg_k (x := 0) (c := 0) (by decide)) (by decide) (by decide)), fun hq => (rg_off (rg_k (x := 0) (c := 0) (by decide)) hq (by decide)).elim⟩, ⟨by rw [ht]; exact hP9, hD9⟩⟩, hS.F ht⟩) hS.2.2 dX8_isTold_20
    · skip
      have h_5 : rg (0) (8) p0 := by have ha := h_3; have hb_ := ha18; simp only [rg, fa_lt, fa_le, fa_eq] at ha hb_ c_4; simp only [rg]; omega
      have h_6 : rg (1) (9) a18 := by have ha := h_3; have hb_ := ha18; simp only [rg, fa_lt, fa_le, fa_eq] at ha hb_ c_4; simp only [rg]; omega
      refine lv_iconst (v := 1) hx hb dX8_isTold_15 (by decide) ?_
      refine lv_goto (tgt := 20) hx hb dX8_isTold_16 (by decide) ?_
      have hP9 := hP.sub (ws' := [(h0, .inr (8, [.ref h1, .int a0, .ref h2, .ref h17, .ref h27, .ref h31, .ref h44, .ref h51, .ref h53, .ref h55, .ref h62, .ref h69])), (h17, .inr (6, [.ref h18, .ref h19, .ref h20, .ref h21, .ref h22, .ref h23, .int a18, .int a19, .int a20, .int a21]))]) [0, 1] rfl
      have hD9 := hD.sub (ws' := [(h0, .inr (8, [.ref h1, .int a0, .ref h2, .ref h17, .ref h27, .ref h31, .ref h44, .ref h51, .ref h53, .ref h55, .ref h62, .ref h69])), (h17, .inr (6, [.ref h18, .ref h19, .ref h20, .ref h21, .ref h22, .ref h23, .int a18, .int a19, .int a20, .int a21]))]) [0, 1] (by decide) rfl
      exact W.zret (v := 1) hx hb hr (rfl) (fun t ht hW => ⟨⟨1, (), rfl, ⟨(rg_mono (rg_k (x := 1) (c := 1) (by decide)) (by decide) (by decide)), fun _ => (rg_mono h_5 (by decide) (by decide))⟩, ⟨by rw [ht]; exact hP9, hD9⟩⟩, hS.F ht⟩) hS.2.2 dX8_isTold_20
def v_s_X8_isIn : List Cond := Cond.code yX8_isIn cX8_isIn 2 (some .boolean) :: ([Cond.methodLink RX8 138 yX8_isTold, Cond.instanceMethod yX8_isTold, Cond.selects RX8 yX8_isTold yX8_isTold, Cond.initialized RX8, Cond.fieldLink RX8 34 "MayRings" "past" "LMayRings$Past;", Cond.fieldLink RX8 142 "MayRings$Past" "out" "I"] ++ (wsX40 ++ (wsX80 ++ (v_s_X8_isTold ++ ([])))))
theorem k_s_X8_isIn : GoodIn lw_tbl v_s_X8_isIn := gd_c (List.mem_of_getElem? (i := 840) (by decide +kernel)) rfl (goodIn_app (gd_c (List.mem_of_getElem? (i := 841) (by decide +kernel)) rfl (gd_c (List.mem_of_getElem? (i := 843) (by decide +kernel)) rfl (gd_c (List.mem_of_getElem? (i := 30) (by decide +kernel)) rfl (gd_c (List.mem_of_getElem? (i := 130) (by decide +kernel)) rfl (gd_c (List.mem_of_getElem? (i := 535) (by decide +kernel)) rfl (gd_c (List.mem_of_getElem? (i := 379) (by decide +kernel)) rfl (gd_nil))))))) (goodIn_app kfX4 (goodIn_app kfX8 (goodIn_app k_s_X8_isTold (gd_nil)))))
set_option maxHeartbeats 2000000 in
set_option maxRecDepth 100000 in
theorem c_s_X8_isIn (l : Launch) (dC : Nat → ClassId) (dI : Nat → Nat → Nat) (cB cI cJ cZ cP : ClassId) (h0 : Nat) (h1 : Nat) (a0 : Int32) (h2 : Nat) (h17 : Nat) (h18 : Nat) (h19 : Nat) (h20 : Nat) (h21 : Nat) (h22 : Nat) (h23 : Nat) (a18 : Int32) (ha18 : rg (0) (9) a18) (a19 : Int32) (a20 : Int32) (a21 : Int32) (h27 : Nat) (h28 : Nat) (h29 : Nat) (a23 : Int32) (a24 : Int32) (ha24 : rg (0) (511) a24) (a25 : Int32) (a26 : Int32) (h31 : Nat) (h44 : Nat) (h51 : Nat) (h53 : Nat) (h55 : Nat) (h62 : Nat) (h69 : Nat) (p0 : Int32) (sz : Nat) : Met l yX8_isIn v_s_X8_isIn ({ frames := 1, cells := 0, slots := 0, locals := 21 }) (va_Pc [.ref h0, .int p0] (fun U => U.heap.size = sz ∧ va_P (dC, dI) vwCl [(h0, .inr (8, [.ref h1, .int a0, .ref h2, .ref h17, .ref h27, .ref h31, .ref h44, .ref h51, .ref h53, .ref h55, .ref h62, .ref h69])), (h17, .inr (6, [.ref h18, .ref h19, .ref h20, .ref h21, .ref h22, .ref h23, .int a18, .int a19, .int a20, .int a21])), (h27, .inr (4, [.ref h28, .ref h29, .int a23, .int a24, .int a25, .int a26]))] U.heap ∧ va_K (dC, dI) vwCl (ty5 cB cI cJ cZ cP) U ∧ va_D (fun _ => True) [(h0, .inr (8, [.ref h1, .int a0, .ref h2, .ref h17, .ref h27, .ref h31, .ref h44, .ref h51, .ref h53, .ref h55, .ref h62, .ref h69])), (h17, .inr (6, [.ref h18, .ref h19, .ref h20, .ref h21, .ref h22, .ref h23, .int a18, .int a19, .int a20, .int a21])), (h27, .inr (4, [.ref h28, .ref h29, .int a23, .int a24, .int a25, .int a26]))])) (va_Qi (fun (r : Int32) (u9 : Unit) => rg (0) (1) r ∧ (rg (1) (1) r → rg (0) (8) p0)) (fun u9 t => va_P (dC, dI) vwCl [(h0, .inr (8, [.ref h1, .int a0, .ref h2, .ref h17, .ref h27, .ref h31, .ref h44, .ref h51, .ref h53, .ref h55, .ref h62, .ref h69])), (h17, .inr (6, [.ref h18, .ref h19, .ref h20, .ref h21, .ref h22, .ref h23, .int a18, .int a19, .int a20, .int a21])), (h27, .inr (4, [.ref h28, .ref h29, .int a23, .int a24, .int a25, .int a26]))] t.heap ∧ va_D (va_A [(h0, .inr (8, [.ref h1, .int a0, .ref h2, .ref h17, .ref h27, .ref h31, .ref h44, .ref h51, .ref h53, .ref h55, .ref h62, .ref h69])), (h17, .inr (6, [.ref h18, .ref h19, .ref h20, .ref h21, .ref h22, .ref h23, .int a18, .int a19, .int a20, .int a21])), (h27, .inr (4, [.ref h28, .ref h29, .int a23, .int a24, .int a25, .int a26]))] sz) [(h0, .inr (8, [.ref h1, .int a0, .ref h2, .ref h17, .ref h27, .ref h31, .ref h44, .ref h51, .ref h53, .ref h55, .ref h62, .ref h69])), (h17, .inr (6, [.ref h18, .ref h19, .ref h20, .ref h21, .ref h22, .ref h23, .int a18, .int a19, .int a20, .int a21])), (h27, .inr (4, [.ref h28, .ref h29, .int a23, .int a24, .int a25, .int a26]))]) (va_A [(h0, .inr (8, [.ref h1, .int a0, .ref h2, .ref h17, .ref h27, .ref h31, .ref h44, .ref h51, .ref h53, .ref h55, .ref h62, .ref h69])), (h17, .inr (6, [.ref h18, .ref h19, .ref h20, .ref h21, .ref h22, .ref h23, .int a18, .int a19, .int a20, .int a21])), (h27, .inr (4, [.ref h28, .ref h29, .int a23, .int a24, .int a25, .int a26]))] sz)) 0 0 (va_A [(h0, .inr (8, [.ref h1, .int a0, .ref h2, .ref h17, .ref h27, .ref h31, .ref h44, .ref h51, .ref h53, .ref h55, .ref h62, .ref h69])), (h17, .inr (6, [.ref h18, .ref h19, .ref h20, .ref h21, .ref h22, .ref h23, .int a18, .int a19, .int a20, .int a21])), (h27, .inr (4, [.ref h28, .ref h29, .int a23, .int a24, .int a25, .int a26]))] sz) := by
  refine Met.ofW (cc := cX8_isIn) (maxL := 2) (ret := (some .boolean)) (by decide) rfl ?_
  intro p e s m args below meth c s₁ B hml hv
  obtain ⟨rfl, hsz, hP, hK, hD0⟩ := hv
  have hx := B.exec
  have hb := B.bytes
  have hr := B.returns
  have hts := atoms_spec (ws := v_s_X8_isIn) B.pre
  have hown : s.vm.findClass RX8 = some m.cls := findClass_of_methodNamed B.named
  have hlocks := B.notSynchronized
  have hinX4 : ∀ w ∈ wsX40, w ∈ v_s_X8_isIn := fun _ h => List.mem_cons_of_mem _ (List.mem_append_right _ (List.mem_append_left _ h))
  have hinX8 : ∀ w ∈ wsX80, w ∈ v_s_X8_isIn := fun _ h => List.mem_cons_of_mem _ (List.mem_append_right _ (List.mem_append_right _ (List.mem_append_left _ h)))
  subst hsz
  have hD := hD0.self (sz := s.heap.size)
  generalize hAe : va_A [(h0, .inr (8, [.ref h1, .int a0, .ref h2, .ref h17, .ref h27, .ref h31, .ref h44, .ref h51, .ref h53, .ref h55, .ref h62, .ref h69])), (h17, .inr (6, [.ref h18, .ref h19, .ref h20, .ref h21, .ref h22, .ref h23, .int a18, .int a19, .int a20, .int a21])), (h27, .inr (4, [.ref h28, .ref h29, .int a23, .int a24, .int a25, .int a26]))] s.heap.size = A at hD ⊢
  have hA : ∀ q : Nat, s.heap.size ≤ q → A q := fun q h => by rw [← hAe]; exact Or.inr h
  have hP : va_P (dC, dI) vwCl [(h0, .inr (8, [.ref h1, .int a0, .ref h2, .ref h17, .ref h27, .ref h31, .ref h44, .ref h51, .ref h53, .ref h55, .ref h62, .ref h69])), (h17, .inr (6, [.ref h18, .ref h19, .ref h20, .ref h21, .ref h22, .ref h23, .int a18, .int a19, .int a20, .int a21])), (h27, .inr (4, [.ref h28, .ref h29, .int a23, .int a24, .int a25, .int a26]))] s.heap := hP
  have hl := lv_entry ([.ref h0, .int p0]) (n := 2) (Nat.le_of_ble_eq_true rfl)
  rw [lg_entry_eq]
  generalize (lg_sl ([.ref h0, .int p0]) ++ List.replicate (2 - (lg_sl ([.ref h0, .int p0])).length) Slot.unset).toArray = ls at hl ⊢
  have hl : lv_has ls 2 [(0, .ref h0), (1, .int p0)] := hl
  refine W_gen (A := A) hP (fun H locs hP hS => ?_)
  refine lv_aload_n hx hb dX8_isIn_0 rfl (lv_at hl 0 rfl) ?_
  refine lv_iload_n hx hb dX8_isIn_1 rfl (lv_at hl 1 rfl) ?_
  have hPc := hP.sub (ws' := [(h0, .inr (8, [.ref h1, .int a0, .ref h2, .ref h17, .ref h27, .ref h31, .ref h44, .ref h51, .ref h53, .ref h55, .ref h62, .ref h69])), (h17, .inr (6, [.ref h18, .ref h19, .ref h20, .ref h21, .ref h22, .ref h23, .int a18, .int a19, .int a20, .int a21]))]) [0, 1] rfl
  have hDc := hD.sub (ws' := [(h0, .inr (8, [.ref h1, .int a0, .ref h2, .ref h17, .ref h27, .ref h31, .ref h44, .ref h51, .ref h53, .ref h55, .ref h62, .ref h69])), (h17, .inr (6, [.ref h18, .ref h19, .ref h20, .ref h21, .ref h22, .ref h23, .int a18, .int a19, .int a20, .int a21]))]) [0, 1] (by decide) rfl
  have hFc := va_free (wc := [(h0, .inr (8, [.ref h1, .int a0, .ref h2, .ref h17, .ref h27, .ref h31, .ref h44, .ref h51, .ref h53, .ref h55, .ref h62, .ref h69])), (h17, .inr (6, [.ref h18, .ref h19, .ref h20, .ref h21, .ref h22, .ref h23, .int a18, .int a19, .int a20, .int a21]))]) hD hS hA [0, 1] rfl
  refine va_calli (va_runV (As := [.int p0]) (rest := []) ⟨hx, hb, hml, hown, hts⟩ (c_s_X8_isTold l dC dI cB cI cJ cZ cP h0 h1 a0 h2 h17 h18 h19 h20 h21 h22 h23 a18 (rg_mono ha18 (by decide) (by decide)) a19 a20 a21 h27 h31 h44 h51 h53 h55 h62 h69 p0 H.size) (cwV 1 hts (gd_V (List.mem_of_getElem? (i := 1) rfl) (List.mem_of_getElem? (i := 2) rfl) (List.mem_of_getElem? (i := 3) rfl) (List.mem_of_getElem? (i := 4) rfl) (gd_mono k_s_X8_isTold (fun _ h => List.mem_cons_of_mem _ (List.mem_append_right _ (List.mem_append_right _ (List.mem_append_right _ (List.mem_append_left _ h))))))) rfl rfl rfl (by decide +kernel) ⟨Nat.le_of_ble_eq_true rfl, Nat.le_of_ble_eq_true rfl⟩) ⟨fun a U g mk q => by obtain ⟨q0, q1, qP, qK, qD⟩ := q; exact ⟨q0, q1, qP, va_K.moved (u := U) (U := U.calling g mk a) (Vm.Alike.refl U.vm) qK, qD⟩, va_recv hK hPc (ci := 8) (q0 := 0) rfl rfl, fun U hU hW => ⟨rfl, by rw [hU], by rw [hU]; exact hPc, va_K.moved hW.alike hK, hDc.weaken (fun _ _ _ _ => trivial)⟩⟩ rfl rfl hl.1 rfl (lv_room (Nat.le_of_ble_eq_true rfl)) dX8_isIn_2 ⟨Nat.le_of_ble_eq_true rfl, Nat.le_of_ble_eq_true rfl⟩) hS (fun q _ h => hFc q h) hFc (fun r_1 u t H1 locs ht hvm hw hB hz1 hk1 hS => ?_)
  obtain ⟨hP1, hD1⟩ := hB
  rw [ht] at hP1
  obtain ⟨hP, hD⟩ := va_join (wr := [(h27, .inr (4, [.ref h28, .ref h29, .int a23, .int a24, .int a25, .int a26]))]) (w1 := [(h0, .inr (8, [.ref h1, .int a0, .ref h2, .ref h17, .ref h27, .ref h31, .ref h44, .ref h51, .ref h53, .ref h55, .ref h62, .ref h69])), (h17, .inr (6, [.ref h18, .ref h19, .ref h20, .ref h21, .ref h22, .ref h23, .int a18, .int a19, .int a20, .int a21]))]) hP hD [0, 1] [2] rfl rfl (by decide) (by decide) hk1 hFc hP1 hD1
  generalize H1 = H at hP hS ⊢
  have hP : va_P (dC, dI) vwCl [(h27, .inr (4, [.ref h28, .ref h29, .int a23, .int a24, .int a25, .int a26])), (h0, .inr (8, [.ref h1, .int a0, .ref h2, .ref h17, .ref h27, .ref h31, .ref h44, .ref h51, .ref h53, .ref h55, .ref h62, .ref h69])), (h17, .inr (6, [.ref h18, .ref h19, .ref h20, .ref h21, .ref h22, .ref h23, .int a18, .int a19, .int a20, .int a21]))] H := hP
  have hD : va_D A [(h27, .inr (4, [.ref h28, .ref h29, .int a23, .int a24, .int a25, .int a26])), (h0, .inr (8, [.ref h1, .int a0, .ref h2, .ref h17, .ref h27, .ref h31, .ref h44, .ref h51, .ref h53, .ref h55, .ref h62, .ref h69])), (h17, .inr (6, [.ref h18, .ref h19, .ref h20, .ref h21, .ref h22, .ref h23, .int a18, .int a19, .int a20, .int a21]))] := hD
  have hr_1 : rg (0) (1) r_1 := hw.1
  have kr_1_0 : rg (1) (1) r_1 → rg (0) (8) p0 := hw.2
  refine lv_if_eq (tgt := 26) hx hb dX8_isIn_5 (by decide) (fun c_2 => ?_) (fun c_2 => ?_)
  · skip
    have h_3 : rg (0) (0) r_1 := by have ha := hr_1; have hb_ := (rg_k (x := 0) (c := 0) (by decide)); simp only [rg, fa_lt, fa_le, fa_eq, (by decide : (0 : Int32).toInt = 0)] at ha hb_ c_2; simp only [rg]; omega
    refine lv_iconst (v := 0) hx hb dX8_isIn_26 (by decide) ?_
    have hP9 := hP.sub (ws' := [(h0, .inr (8, [.ref h1, .int a0, .ref h2, .ref h17, .ref h27, .ref h31, .ref h44, .ref h51, .ref h53, .ref h55, .ref h62, .ref h69])), (h17, .inr (6, [.ref h18, .ref h19, .ref h20, .ref h21, .ref h22, .ref h23, .int a18, .int a19, .int a20, .int a21])), (h27, .inr (4, [.ref h28, .ref h29, .int a23, .int a24, .int a25, .int a26]))]) [1, 2, 0] rfl
    have hD9 := hD.sub (ws' := [(h0, .inr (8, [.ref h1, .int a0, .ref h2, .ref h17, .ref h27, .ref h31, .ref h44, .ref h51, .ref h53, .ref h55, .ref h62, .ref h69])), (h17, .inr (6, [.ref h18, .ref h19, .ref h20, .ref h21, .ref h22, .ref h23, .int a18, .int a19, .int a20, .int a21])), (h27, .inr (4, [.ref h28, .ref h29, .int a23, .int a24, .int a25, .int a26]))]) [1, 2, 0] (by decide) rfl
    exact W.zret (v := 0) hx hb hr (rfl) (fun t ht hW => ⟨⟨0, (), rfl, ⟨(rg_mono (rg_k (x := 0) (c := 0) (by decide)) (by decide) (by decide)), fun hq => (rg_off (rg_k (x := 0) (c := 0) (by decide)) hq (by decide)).elim⟩, ⟨by rw [ht]; exact hP9, hD9⟩⟩, hS.F ht⟩) hS.2.2 dX8_isIn_27
  · skip
    have h_4 : rg (1) (1) r_1 := by have ha := hr_1; have hb_ := (rg_k (x := 0) (c := 0) (by decide)); simp only [rg, fa_lt, fa_le, fa_eq, (by decide : (0 : Int32).toInt = 0)] at ha hb_ c_2; simp only [rg]; omega
    have h_5 : rg (0) (8) p0 := rg_meet (rg_any p0) (kr_1_0 (rg_mono h_4 (by decide) (by decide))) (by decide) (by decide)
    refine lv_aload_n hx hb dX8_isIn_8 rfl (lv_at hl 0 rfl) ?_
    refine va_get (D := (dC, dI)) (ci := 8) (v := .ref h27) (C := RX8) (T := TX8) (N := 12) hx hb hts hinX8 hown hK hP 1 rfl rfl 4 (by decide) (hts (.fieldLink RX8 34 "MayRings" "past" "LMayRings$Past;") (List.mem_of_getElem? (i := 5) rfl)) (fun _ h9 => h9) rfl dX8_isIn_9 ?_
    refine va_get (D := (dC, dI)) (ci := 4) (v := .int a24) (C := RX4) (T := TX4) (N := 6) hx hb hts hinX4 hown hK hP 0 rfl rfl 3 (by decide) (hts (.fieldLink RX8 142 "MayRings$Past" "out" "I") (List.mem_of_getElem? (i := 6) rfl)) (fun _ h9 => h9) rfl dX8_isIn_12 ?_
    refine lv_iload_n hx hb dX8_isIn_15 rfl (lv_at hl 1 rfl) ?_
    refine lv_ishr hx hb dX8_isIn_16 ?_
    refine lv_topi (fun x_6 ex_6 => ?_)
    have hx_6 : rg (0) (511) x_6 := by rw [ex_6]; exact rg_mono (rg_shr (b := 511) (rg_mono ha24 (by decide) (by decide))) (by decide) (by decide)
    have kx_6_0 : rg 1 2147483647 x_6 → rg 1 (511) a24 := fun hq => rg_shrP ha24 (ex_6 ▸ hq)
    refine lv_iconst (v := 1) hx hb dX8_isIn_17 (by decide) ?_
    refine lv_iand hx hb dX8_isIn_18 ?_
    refine lv_topi (fun x_7 ex_7 => ?_)
    have hx_7 : rg (0) (1) x_7 := by rw [ex_7]; exact rg_mono (rg_andr (b := 1) (rg_mono (rg_k (x := 1) (c := 1) (by decide)) (by decide) (by decide))) (by decide) (by decide)
    have kx_7_0 : rg 1 2147483647 x_7 → rg 1 (511) x_6 := fun hq => rg_andP hx_6 (ex_7 ▸ hq)
    refine lv_if_ne (tgt := 26) hx hb dX8_isIn_19 (by decide) (fun c_8 => ?_) (fun c_8 => ?_)
    · skip
      have h_9 : rg (1) (1) x_7 := by have ha := hx_7; have hb_ := (rg_k (x := 0) (c := 0) (by decide)); simp only [rg, fa_lt, fa_le, fa_eq, (by decide : (0 : Int32).toInt = 0)] at ha hb_ c_8; simp only [rg]; omega
      have h_10 : rg (1) (511) x_6 := rg_meet hx_6 (kx_7_0 (rg_mono h_9 (by decide) (by decide))) (by decide) (by decide)
      have h_11 : rg (1) (511) a24 := rg_meet ha24 (kx_6_0 (rg_mono h_10 (by decide) (by decide))) (by decide) (by decide)
      refine lv_iconst (v := 0) hx hb dX8_isIn_26 (by decide) ?_
      have hP9 := hP.sub (ws' := [(h0, .inr (8, [.ref h1, .int a0, .ref h2, .ref h17, .ref h27, .ref h31, .ref h44, .ref h51, .ref h53, .ref h55, .ref h62, .ref h69])), (h17, .inr (6, [.ref h18, .ref h19, .ref h20, .ref h21, .ref h22, .ref h23, .int a18, .int a19, .int a20, .int a21])), (h27, .inr (4, [.ref h28, .ref h29, .int a23, .int a24, .int a25, .int a26]))]) [1, 2, 0] rfl
      have hD9 := hD.sub (ws' := [(h0, .inr (8, [.ref h1, .int a0, .ref h2, .ref h17, .ref h27, .ref h31, .ref h44, .ref h51, .ref h53, .ref h55, .ref h62, .ref h69])), (h17, .inr (6, [.ref h18, .ref h19, .ref h20, .ref h21, .ref h22, .ref h23, .int a18, .int a19, .int a20, .int a21])), (h27, .inr (4, [.ref h28, .ref h29, .int a23, .int a24, .int a25, .int a26]))]) [1, 2, 0] (by decide) rfl
      exact W.zret (v := 0) hx hb hr (rfl) (fun t ht hW => ⟨⟨0, (), rfl, ⟨(rg_mono (rg_k (x := 0) (c := 0) (by decide)) (by decide) (by decide)), fun hq => (rg_off (rg_k (x := 0) (c := 0) (by decide)) hq (by decide)).elim⟩, ⟨by rw [ht]; exact hP9, hD9⟩⟩, hS.F ht⟩) hS.2.2 dX8_isIn_27
    · skip
      have h_12 : rg (0) (0) x_7 := by have ha := hx_7; have hb_ := (rg_k (x := 0) (c := 0) (by decide)); simp only [rg, fa_lt, fa_le, fa_eq, (by decide : (0 : Int32).toInt = 0)] at ha hb_ c_8; simp only [rg]; omega
      refine lv_iconst (v := 1) hx hb dX8_isIn_22 (by decide) ?_
      refine lv_goto (tgt := 27) hx hb dX8_isIn_23 (by decide) ?_
      have hP9 := hP.sub (ws' := [(h0, .inr (8, [.ref h1, .int a0, .ref h2, .ref h17, .ref h27, .ref h31, .ref h44, .ref h51, .ref h53, .ref h55, .ref h62, .ref h69])), (h17, .inr (6, [.ref h18, .ref h19, .ref h20, .ref h21, .ref h22, .ref h23, .int a18, .int a19, .int a20, .int a21])), (h27, .inr (4, [.ref h28, .ref h29, .int a23, .int a24, .int a25, .int a26]))]) [1, 2, 0] rfl
      have hD9 := hD.sub (ws' := [(h0, .inr (8, [.ref h1, .int a0, .ref h2, .ref h17, .ref h27, .ref h31, .ref h44, .ref h51, .ref h53, .ref h55, .ref h62, .ref h69])), (h17, .inr (6, [.ref h18, .ref h19, .ref h20, .ref h21, .ref h22, .ref h23, .int a18, .int a19, .int a20, .int a21])), (h27, .inr (4, [.ref h28, .ref h29, .int a23, .int a24, .int a25, .int a26]))]) [1, 2, 0] (by decide) rfl
      exact W.zret (v := 1) hx hb hr (rfl) (fun t ht hW => ⟨⟨1, (), rfl, ⟨(rg_mono (rg_k (x := 1) (c := 1) (by decide)) (by decide) (by decide)), fun _ => (rg_mono h_5 (by decide) (by decide))⟩, ⟨by rw [ht]; exact hP9, hD9⟩⟩, hS.F ht⟩) hS.2.2 dX8_isIn_27
def v_s_X8_isPair : List Cond := Cond.code yX8_isPair cX8_isPair 3 (some .boolean) :: ([Cond.methodLink RX8 145 yX8_isIn, Cond.instanceMethod yX8_isIn, Cond.selects RX8 yX8_isIn yX8_isIn, Cond.initialized RX8] ++ (v_s_X8_isIn ++ ([])))
theorem k_s_X8_isPair : GoodIn lw_tbl v_s_X8_isPair := gd_c (List.mem_of_getElem? (i := 836) (by decide +kernel)) rfl (goodIn_app (gd_c (List.mem_of_getElem? (i := 837) (by decide +kernel)) rfl (gd_c (List.mem_of_getElem? (i := 839) (by decide +kernel)) rfl (gd_c (List.mem_of_getElem? (i := 29) (by decide +kernel)) rfl (gd_c (List.mem_of_getElem? (i := 130) (by decide +kernel)) rfl (gd_nil))))) (goodIn_app k_s_X8_isIn (gd_nil)))
set_option maxHeartbeats 2000000 in
set_option maxRecDepth 100000 in
theorem c_s_X8_isPair (l : Launch) (dC : Nat → ClassId) (dI : Nat → Nat → Nat) (cB cI cJ cZ cP : ClassId) (h0 : Nat) (h1 : Nat) (a0 : Int32) (h2 : Nat) (h17 : Nat) (h18 : Nat) (h19 : Nat) (h20 : Nat) (h21 : Nat) (h22 : Nat) (h23 : Nat) (a18 : Int32) (ha18 : rg (0) (9) a18) (a19 : Int32) (a20 : Int32) (a21 : Int32) (h27 : Nat) (h28 : Nat) (h29 : Nat) (a23 : Int32) (a24 : Int32) (ha24 : rg (0) (511) a24) (a25 : Int32) (a26 : Int32) (h31 : Nat) (h44 : Nat) (h51 : Nat) (h53 : Nat) (h55 : Nat) (h62 : Nat) (h69 : Nat) (p0 : Int32) (p1 : Int32) (sz : Nat) : Met l yX8_isPair v_s_X8_isPair ({ frames := 2, cells := 0, slots := 0, locals := 42 }) (va_Pc [.ref h0, .int p0, .int p1] (fun U => U.heap.size = sz ∧ va_P (dC, dI) vwCl [(h0, .inr (8, [.ref h1, .int a0, .ref h2, .ref h17, .ref h27, .ref h31, .ref h44, .ref h51, .ref h53, .ref h55, .ref h62, .ref h69])), (h17, .inr (6, [.ref h18, .ref h19, .ref h20, .ref h21, .ref h22, .ref h23, .int a18, .int a19, .int a20, .int a21])), (h27, .inr (4, [.ref h28, .ref h29, .int a23, .int a24, .int a25, .int a26]))] U.heap ∧ va_K (dC, dI) vwCl (ty5 cB cI cJ cZ cP) U ∧ va_D (fun _ => True) [(h0, .inr (8, [.ref h1, .int a0, .ref h2, .ref h17, .ref h27, .ref h31, .ref h44, .ref h51, .ref h53, .ref h55, .ref h62, .ref h69])), (h17, .inr (6, [.ref h18, .ref h19, .ref h20, .ref h21, .ref h22, .ref h23, .int a18, .int a19, .int a20, .int a21])), (h27, .inr (4, [.ref h28, .ref h29, .int a23, .int a24, .int a25, .int a26]))])) (va_Qi (fun (r : Int32) (u9 : Unit) => rg (0) (1) r ∧ (rg (1) (1) r → rg (0) (8) p0) ∧ (rg (1) (1) r → rg (0) (8) p1)) (fun u9 t => va_P (dC, dI) vwCl [(h0, .inr (8, [.ref h1, .int a0, .ref h2, .ref h17, .ref h27, .ref h31, .ref h44, .ref h51, .ref h53, .ref h55, .ref h62, .ref h69])), (h17, .inr (6, [.ref h18, .ref h19, .ref h20, .ref h21, .ref h22, .ref h23, .int a18, .int a19, .int a20, .int a21])), (h27, .inr (4, [.ref h28, .ref h29, .int a23, .int a24, .int a25, .int a26]))] t.heap ∧ va_D (va_A [(h0, .inr (8, [.ref h1, .int a0, .ref h2, .ref h17, .ref h27, .ref h31, .ref h44, .ref h51, .ref h53, .ref h55, .ref h62, .ref h69])), (h17, .inr (6, [.ref h18, .ref h19, .ref h20, .ref h21, .ref h22, .ref h23, .int a18, .int a19, .int a20, .int a21])), (h27, .inr (4, [.ref h28, .ref h29, .int a23, .int a24, .int a25, .int a26]))] sz) [(h0, .inr (8, [.ref h1, .int a0, .ref h2, .ref h17, .ref h27, .ref h31, .ref h44, .ref h51, .ref h53, .ref h55, .ref h62, .ref h69])), (h17, .inr (6, [.ref h18, .ref h19, .ref h20, .ref h21, .ref h22, .ref h23, .int a18, .int a19, .int a20, .int a21])), (h27, .inr (4, [.ref h28, .ref h29, .int a23, .int a24, .int a25, .int a26]))]) (va_A [(h0, .inr (8, [.ref h1, .int a0, .ref h2, .ref h17, .ref h27, .ref h31, .ref h44, .ref h51, .ref h53, .ref h55, .ref h62, .ref h69])), (h17, .inr (6, [.ref h18, .ref h19, .ref h20, .ref h21, .ref h22, .ref h23, .int a18, .int a19, .int a20, .int a21])), (h27, .inr (4, [.ref h28, .ref h29, .int a23, .int a24, .int a25, .int a26]))] sz)) 0 0 (va_A [(h0, .inr (8, [.ref h1, .int a0, .ref h2, .ref h17, .ref h27, .ref h31, .ref h44, .ref h51, .ref h53, .ref h55, .ref h62, .ref h69])), (h17, .inr (6, [.ref h18, .ref h19, .ref h20, .ref h21, .ref h22, .ref h23, .int a18, .int a19, .int a20, .int a21])), (h27, .inr (4, [.ref h28, .ref h29, .int a23, .int a24, .int a25, .int a26]))] sz) := by
  refine Met.ofW (cc := cX8_isPair) (maxL := 3) (ret := (some .boolean)) (by decide) rfl ?_
  intro p e s m args below meth c s₁ B hml hv
  obtain ⟨rfl, hsz, hP, hK, hD0⟩ := hv
  have hx := B.exec
  have hb := B.bytes
  have hr := B.returns
  have hts := atoms_spec (ws := v_s_X8_isPair) B.pre
  have hown : s.vm.findClass RX8 = some m.cls := findClass_of_methodNamed B.named
  have hlocks := B.notSynchronized
  subst hsz
  have hD := hD0.self (sz := s.heap.size)
  generalize hAe : va_A [(h0, .inr (8, [.ref h1, .int a0, .ref h2, .ref h17, .ref h27, .ref h31, .ref h44, .ref h51, .ref h53, .ref h55, .ref h62, .ref h69])), (h17, .inr (6, [.ref h18, .ref h19, .ref h20, .ref h21, .ref h22, .ref h23, .int a18, .int a19, .int a20, .int a21])), (h27, .inr (4, [.ref h28, .ref h29, .int a23, .int a24, .int a25, .int a26]))] s.heap.size = A at hD ⊢
  have hA : ∀ q : Nat, s.heap.size ≤ q → A q := fun q h => by rw [← hAe]; exact Or.inr h
  have hP : va_P (dC, dI) vwCl [(h0, .inr (8, [.ref h1, .int a0, .ref h2, .ref h17, .ref h27, .ref h31, .ref h44, .ref h51, .ref h53, .ref h55, .ref h62, .ref h69])), (h17, .inr (6, [.ref h18, .ref h19, .ref h20, .ref h21, .ref h22, .ref h23, .int a18, .int a19, .int a20, .int a21])), (h27, .inr (4, [.ref h28, .ref h29, .int a23, .int a24, .int a25, .int a26]))] s.heap := hP
  have hl := lv_entry ([.ref h0, .int p0, .int p1]) (n := 3) (Nat.le_of_ble_eq_true rfl)
  rw [lg_entry_eq]
  generalize (lg_sl ([.ref h0, .int p0, .int p1]) ++ List.replicate (3 - (lg_sl ([.ref h0, .int p0, .int p1])).length) Slot.unset).toArray = ls at hl ⊢
  have hl : lv_has ls 3 [(0, .ref h0), (1, .int p0), (2, .int p1)] := hl
  refine W_gen (A := A) hP (fun H locs hP hS => ?_)
  refine lv_iload_n hx hb dX8_isPair_0 rfl (lv_at hl 1 rfl) ?_
  refine lv_iload_n hx hb dX8_isPair_1 rfl (lv_at hl 2 rfl) ?_
  refine lv_icmp_eq (tgt := 25) hx hb dX8_isPair_2 (by decide) (fun c_1 => ?_) (fun c_1 => ?_)
  · skip
    refine lv_iconst (v := 0) hx hb dX8_isPair_25 (by decide) ?_
    have hP9 := hP.sub (ws' := [(h0, .inr (8, [.ref h1, .int a0, .ref h2, .ref h17, .ref h27, .ref h31, .ref h44, .ref h51, .ref h53, .ref h55, .ref h62, .ref h69])), (h17, .inr (6, [.ref h18, .ref h19, .ref h20, .ref h21, .ref h22, .ref h23, .int a18, .int a19, .int a20, .int a21])), (h27, .inr (4, [.ref h28, .ref h29, .int a23, .int a24, .int a25, .int a26]))]) [0, 1, 2] rfl
    have hD9 := hD.sub (ws' := [(h0, .inr (8, [.ref h1, .int a0, .ref h2, .ref h17, .ref h27, .ref h31, .ref h44, .ref h51, .ref h53, .ref h55, .ref h62, .ref h69])), (h17, .inr (6, [.ref h18, .ref h19, .ref h20, .ref h21, .ref h22, .ref h23, .int a18, .int a19, .int a20, .int a21])), (h27, .inr (4, [.ref h28, .ref h29, .int a23, .int a24, .int a25, .int a26]))]) [0, 1, 2] (by decide) rfl
    exact W.zret (v := 0) hx hb hr (rfl) (fun t ht hW => ⟨⟨0, (), rfl, ⟨(rg_mono (rg_k (x := 0) (c := 0) (by decide)) (by decide) (by decide)), fun hq => (rg_off (rg_k (x := 0) (c := 0) (by decide)) hq (by decide)).elim, fun hq => (rg_off (rg_k (x := 0) (c := 0) (by decide)) hq (by decide)).elim⟩, ⟨by rw [ht]; exact hP9, hD9⟩⟩, hS.F ht⟩) hS.2.2 dX8_isPair_26
  · skip
    refine lv_aload_n hx hb dX8_isPair_5 rfl (lv_at hl 0 rfl) ?_
    refine lv_iload_n hx hb dX8_isPair_6 rfl (lv_at hl 1 rfl) ?_
    have hPc := hP.sub (ws' := [(h0, .inr (8, [.ref h1, .int a0, .ref h2, .ref h17, .ref h27, .ref h31, .ref h44, .ref h51, .ref h53, .ref h55, .ref h62, .ref h69])), (h17, .inr (6, [.ref h18, .ref h19, .ref h20, .ref h21, .ref h22, .ref h23, .int a18, .int a19, .int a20, .int a21])), (h27, .inr (4, [.ref h28, .ref h29, .int a23, .int a24, .int a25, .int a26]))]) [0, 1, 2] rfl
    have hDc := hD.sub (ws' := [(h0, .inr (8, [.ref h1, .int a0, .ref h2, .ref h17, .ref h27, .ref h31, .ref h44, .ref h51, .ref h53, .ref h55, .ref h62, .ref h69])), (h17, .inr (6, [.ref h18, .ref h19, .ref h20, .ref h21, .ref h22, .ref h23, .int a18, .int a19, .int a20, .int a21])), (h27, .inr (4, [.ref h28, .ref h29, .int a23, .int a24, .int a25, .int a26]))]) [0, 1, 2] (by decide) rfl
    have hFc := va_free (wc := [(h0, .inr (8, [.ref h1, .int a0, .ref h2, .ref h17, .ref h27, .ref h31, .ref h44, .ref h51, .ref h53, .ref h55, .ref h62, .ref h69])), (h17, .inr (6, [.ref h18, .ref h19, .ref h20, .ref h21, .ref h22, .ref h23, .int a18, .int a19, .int a20, .int a21])), (h27, .inr (4, [.ref h28, .ref h29, .int a23, .int a24, .int a25, .int a26]))]) hD hS hA [0, 1, 2] rfl
    refine va_calli (va_runV (As := [.int p0]) (rest := []) ⟨hx, hb, hml, hown, hts⟩ (c_s_X8_isIn l dC dI cB cI cJ cZ cP h0 h1 a0 h2 h17 h18 h19 h20 h21 h22 h23 a18 (rg_mono ha18 (by decide) (by decide)) a19 a20 a21 h27 h28 h29 a23 a24 (rg_mono ha24 (by decide) (by decide)) a25 a26 h31 h44 h51 h53 h55 h62 h69 p0 H.size) (cwV 1 hts (gd_V (List.mem_of_getElem? (i := 1) rfl) (List.mem_of_getElem? (i := 2) rfl) (List.mem_of_getElem? (i := 3) rfl) (List.mem_of_getElem? (i := 4) rfl) (gd_mono k_s_X8_isIn (fun _ h => List.mem_cons_of_mem _ (List.mem_append_right _ (List.mem_append_left _ h))))) rfl rfl rfl (by decide +kernel) ⟨Nat.le_of_ble_eq_true rfl, Nat.le_of_ble_eq_true rfl⟩) ⟨fun a U g mk q => by obtain ⟨q0, q1, qP, qK, qD⟩ := q; exact ⟨q0, q1, qP, va_K.moved (u := U) (U := U.calling g mk a) (Vm.Alike.refl U.vm) qK, qD⟩, va_recv hK hPc (ci := 8) (q0 := 0) rfl rfl, fun U hU hW => ⟨rfl, by rw [hU], by rw [hU]; exact hPc, va_K.moved hW.alike hK, hDc.weaken (fun _ _ _ _ => trivial)⟩⟩ rfl rfl hl.1 rfl (lv_room (Nat.le_of_ble_eq_true rfl)) dX8_isPair_7 ⟨Nat.le_of_ble_eq_true rfl, Nat.le_of_ble_eq_true rfl⟩) hS (fun q _ h => hFc q h) hFc (fun r_2 u t H1 locs ht hvm hw hB hz1 hk1 hS => ?_)
    obtain ⟨hP1, hD1⟩ := hB
    rw [ht] at hP1
    obtain ⟨hP, hD⟩ := va_join (wr := []) (w1 := [(h0, .inr (8, [.ref h1, .int a0, .ref h2, .ref h17, .ref h27, .ref h31, .ref h44, .ref h51, .ref h53, .ref h55, .ref h62, .ref h69])), (h17, .inr (6, [.ref h18, .ref h19, .ref h20, .ref h21, .ref h22, .ref h23, .int a18, .int a19, .int a20, .int a21])), (h27, .inr (4, [.ref h28, .ref h29, .int a23, .int a24, .int a25, .int a26]))]) hP hD [0, 1, 2] [] rfl rfl (by decide) (by decide) hk1 hFc hP1 hD1
    generalize H1 = H at hP hS ⊢
    have hP : va_P (dC, dI) vwCl [(h0, .inr (8, [.ref h1, .int a0, .ref h2, .ref h17, .ref h27, .ref h31, .ref h44, .ref h51, .ref h53, .ref h55, .ref h62, .ref h69])), (h17, .inr (6, [.ref h18, .ref h19, .ref h20, .ref h21, .ref h22, .ref h23, .int a18, .int a19, .int a20, .int a21])), (h27, .inr (4, [.ref h28, .ref h29, .int a23, .int a24, .int a25, .int a26]))] H := hP
    have hD : va_D A [(h0, .inr (8, [.ref h1, .int a0, .ref h2, .ref h17, .ref h27, .ref h31, .ref h44, .ref h51, .ref h53, .ref h55, .ref h62, .ref h69])), (h17, .inr (6, [.ref h18, .ref h19, .ref h20, .ref h21, .ref h22, .ref h23, .int a18, .int a19, .int a20, .int a21])), (h27, .inr (4, [.ref h28, .ref h29, .int a23, .int a24, .int a25, .int a26]))] := hD
    have hr_2 : rg (0) (1) r_2 := hw.1
    have kr_2_0 : rg (1) (1) r_2 → rg (0) (8) p0 := hw.2
    refine lv_if_eq (tgt := 25) hx hb dX8_isPair_10 (by decide) (fun c_3 => ?_) (fun c_3 => ?_)
    · skip
      have h_4 : rg (0) (0) r_2 := by have ha := hr_2; have hb_ := (rg_k (x := 0) (c := 0) (by decide)); simp only [rg, fa_lt, fa_le, fa_eq, (by decide : (0 : Int32).toInt = 0)] at ha hb_ c_3; simp only [rg]; omega
      refine lv_iconst (v := 0) hx hb dX8_isPair_25 (by decide) ?_
      have hP9 := hP.sub (ws' := [(h0, .inr (8, [.ref h1, .int a0, .ref h2, .ref h17, .ref h27, .ref h31, .ref h44, .ref h51, .ref h53, .ref h55, .ref h62, .ref h69])), (h17, .inr (6, [.ref h18, .ref h19, .ref h20, .ref h21, .ref h22, .ref h23, .int a18, .int a19, .int a20, .int a21])), (h27, .inr (4, [.ref h28, .ref h29, .int a23, .int a24, .int a25, .int a26]))]) [0, 1, 2] rfl
      have hD9 := hD.sub (ws' := [(h0, .inr (8, [.ref h1, .int a0, .ref h2, .ref h17, .ref h27, .ref h31, .ref h44, .ref h51, .ref h53, .ref h55, .ref h62, .ref h69])), (h17, .inr (6, [.ref h18, .ref h19, .ref h20, .ref h21, .ref h22, .ref h23, .int a18, .int a19, .int a20, .int a21])), (h27, .inr (4, [.ref h28, .ref h29, .int a23, .int a24, .int a25, .int a26]))]) [0, 1, 2] (by decide) rfl
      exact W.zret (v := 0) hx hb hr (rfl) (fun t ht hW => ⟨⟨0, (), rfl, ⟨(rg_mono (rg_k (x := 0) (c := 0) (by decide)) (by decide) (by decide)), fun hq => (rg_off (rg_k (x := 0) (c := 0) (by decide)) hq (by decide)).elim, fun hq => (rg_off (rg_k (x := 0) (c := 0) (by decide)) hq (by decide)).elim⟩, ⟨by rw [ht]; exact hP9, hD9⟩⟩, hS.F ht⟩) hS.2.2 dX8_isPair_26
    · skip
      have h_5 : rg (1) (1) r_2 := by have ha := hr_2; have hb_ := (rg_k (x := 0) (c := 0) (by decide)); simp only [rg, fa_lt, fa_le, fa_eq, (by decide : (0 : Int32).toInt = 0)] at ha hb_ c_3; simp only [rg]; omega
      have h_6 : rg (0) (8) p0 := rg_meet (rg_any p0) (kr_2_0 (rg_mono h_5 (by decide) (by decide))) (by decide) (by decide)
      refine lv_aload_n hx hb dX8_isPair_13 rfl (lv_at hl 0 rfl) ?_
      refine lv_iload_n hx hb dX8_isPair_14 rfl (lv_at hl 2 rfl) ?_
      have hPc := hP.sub (ws' := [(h0, .inr (8, [.ref h1, .int a0, .ref h2, .ref h17, .ref h27, .ref h31, .ref h44, .ref h51, .ref h53, .ref h55, .ref h62, .ref h69])), (h17, .inr (6, [.ref h18, .ref h19, .ref h20, .ref h21, .ref h22, .ref h23, .int a18, .int a19, .int a20, .int a21])), (h27, .inr (4, [.ref h28, .ref h29, .int a23, .int a24, .int a25, .int a26]))]) [0, 1, 2] rfl
      have hDc := hD.sub (ws' := [(h0, .inr (8, [.ref h1, .int a0, .ref h2, .ref h17, .ref h27, .ref h31, .ref h44, .ref h51, .ref h53, .ref h55, .ref h62, .ref h69])), (h17, .inr (6, [.ref h18, .ref h19, .ref h20, .ref h21, .ref h22, .ref h23, .int a18, .int a19, .int a20, .int a21])), (h27, .inr (4, [.ref h28, .ref h29, .int a23, .int a24, .int a25, .int a26]))]) [0, 1, 2] (by decide) rfl
      have hFc := va_free (wc := [(h0, .inr (8, [.ref h1, .int a0, .ref h2, .ref h17, .ref h27, .ref h31, .ref h44, .ref h51, .ref h53, .ref h55, .ref h62, .ref h69])), (h17, .inr (6, [.ref h18, .ref h19, .ref h20, .ref h21, .ref h22, .ref h23, .int a18, .int a19, .int a20, .int a21])), (h27, .inr (4, [.ref h28, .ref h29, .int a23, .int a24, .int a25, .int a26]))]) hD hS hA [0, 1, 2] rfl
      refine va_calli (va_runV (As := [.int p1]) (rest := []) ⟨hx, hb, hml, hown, hts⟩ (c_s_X8_isIn l dC dI cB cI cJ cZ cP h0 h1 a0 h2 h17 h18 h19 h20 h21 h22 h23 a18 (rg_mono ha18 (by decide) (by decide)) a19 a20 a21 h27 h28 h29 a23 a24 (rg_mono ha24 (by decide) (by decide)) a25 a26 h31 h44 h51 h53 h55 h62 h69 p1 H.size) (cwV 1 hts (gd_V (List.mem_of_getElem? (i := 1) rfl) (List.mem_of_getElem? (i := 2) rfl) (List.mem_of_getElem? (i := 3) rfl) (List.mem_of_getElem? (i := 4) rfl) (gd_mono k_s_X8_isIn (fun _ h => List.mem_cons_of_mem _ (List.mem_append_right _ (List.mem_append_left _ h))))) rfl rfl rfl (by decide +kernel) ⟨Nat.le_of_ble_eq_true rfl, Nat.le_of_ble_eq_true rfl⟩) ⟨fun a U g mk q => by obtain ⟨q0, q1, qP, qK, qD⟩ := q; exact ⟨q0, q1, qP, va_K.moved (u := U) (U := U.calling g mk a) (Vm.Alike.refl U.vm) qK, qD⟩, va_recv hK hPc (ci := 8) (q0 := 0) rfl rfl, fun U hU hW => ⟨rfl, by rw [hU], by rw [hU]; exact hPc, va_K.moved hW.alike hK, hDc.weaken (fun _ _ _ _ => trivial)⟩⟩ rfl rfl hl.1 rfl (lv_room (Nat.le_of_ble_eq_true rfl)) dX8_isPair_15 ⟨Nat.le_of_ble_eq_true rfl, Nat.le_of_ble_eq_true rfl⟩) hS (fun q _ h => hFc q h) hFc (fun r_7 u t H1 locs ht hvm hw hB hz1 hk1 hS => ?_)
      obtain ⟨hP1, hD1⟩ := hB
      rw [ht] at hP1
      obtain ⟨hP, hD⟩ := va_join (wr := []) (w1 := [(h0, .inr (8, [.ref h1, .int a0, .ref h2, .ref h17, .ref h27, .ref h31, .ref h44, .ref h51, .ref h53, .ref h55, .ref h62, .ref h69])), (h17, .inr (6, [.ref h18, .ref h19, .ref h20, .ref h21, .ref h22, .ref h23, .int a18, .int a19, .int a20, .int a21])), (h27, .inr (4, [.ref h28, .ref h29, .int a23, .int a24, .int a25, .int a26]))]) hP hD [0, 1, 2] [] rfl rfl (by decide) (by decide) hk1 hFc hP1 hD1
      generalize H1 = H at hP hS ⊢
      have hP : va_P (dC, dI) vwCl [(h0, .inr (8, [.ref h1, .int a0, .ref h2, .ref h17, .ref h27, .ref h31, .ref h44, .ref h51, .ref h53, .ref h55, .ref h62, .ref h69])), (h17, .inr (6, [.ref h18, .ref h19, .ref h20, .ref h21, .ref h22, .ref h23, .int a18, .int a19, .int a20, .int a21])), (h27, .inr (4, [.ref h28, .ref h29, .int a23, .int a24, .int a25, .int a26]))] H := hP
      have hD : va_D A [(h0, .inr (8, [.ref h1, .int a0, .ref h2, .ref h17, .ref h27, .ref h31, .ref h44, .ref h51, .ref h53, .ref h55, .ref h62, .ref h69])), (h17, .inr (6, [.ref h18, .ref h19, .ref h20, .ref h21, .ref h22, .ref h23, .int a18, .int a19, .int a20, .int a21])), (h27, .inr (4, [.ref h28, .ref h29, .int a23, .int a24, .int a25, .int a26]))] := hD
      have hr_7 : rg (0) (1) r_7 := hw.1
      have kr_7_0 : rg (1) (1) r_7 → rg (0) (8) p1 := hw.2
      refine lv_if_eq (tgt := 25) hx hb dX8_isPair_18 (by decide) (fun c_8 => ?_) (fun c_8 => ?_)
      · skip
        have h_9 : rg (0) (0) r_7 := by have ha := hr_7; have hb_ := (rg_k (x := 0) (c := 0) (by decide)); simp only [rg, fa_lt, fa_le, fa_eq, (by decide : (0 : Int32).toInt = 0)] at ha hb_ c_8; simp only [rg]; omega
        refine lv_iconst (v := 0) hx hb dX8_isPair_25 (by decide) ?_
        have hP9 := hP.sub (ws' := [(h0, .inr (8, [.ref h1, .int a0, .ref h2, .ref h17, .ref h27, .ref h31, .ref h44, .ref h51, .ref h53, .ref h55, .ref h62, .ref h69])), (h17, .inr (6, [.ref h18, .ref h19, .ref h20, .ref h21, .ref h22, .ref h23, .int a18, .int a19, .int a20, .int a21])), (h27, .inr (4, [.ref h28, .ref h29, .int a23, .int a24, .int a25, .int a26]))]) [0, 1, 2] rfl
        have hD9 := hD.sub (ws' := [(h0, .inr (8, [.ref h1, .int a0, .ref h2, .ref h17, .ref h27, .ref h31, .ref h44, .ref h51, .ref h53, .ref h55, .ref h62, .ref h69])), (h17, .inr (6, [.ref h18, .ref h19, .ref h20, .ref h21, .ref h22, .ref h23, .int a18, .int a19, .int a20, .int a21])), (h27, .inr (4, [.ref h28, .ref h29, .int a23, .int a24, .int a25, .int a26]))]) [0, 1, 2] (by decide) rfl
        exact W.zret (v := 0) hx hb hr (rfl) (fun t ht hW => ⟨⟨0, (), rfl, ⟨(rg_mono (rg_k (x := 0) (c := 0) (by decide)) (by decide) (by decide)), fun hq => (rg_off (rg_k (x := 0) (c := 0) (by decide)) hq (by decide)).elim, fun hq => (rg_off (rg_k (x := 0) (c := 0) (by decide)) hq (by decide)).elim⟩, ⟨by rw [ht]; exact hP9, hD9⟩⟩, hS.F ht⟩) hS.2.2 dX8_isPair_26
      · skip
        have h_10 : rg (1) (1) r_7 := by have ha := hr_7; have hb_ := (rg_k (x := 0) (c := 0) (by decide)); simp only [rg, fa_lt, fa_le, fa_eq, (by decide : (0 : Int32).toInt = 0)] at ha hb_ c_8; simp only [rg]; omega
        have h_11 : rg (0) (8) p1 := rg_meet (rg_any p1) (kr_7_0 (rg_mono h_10 (by decide) (by decide))) (by decide) (by decide)
        refine lv_iconst (v := 1) hx hb dX8_isPair_21 (by decide) ?_
        refine lv_goto (tgt := 26) hx hb dX8_isPair_22 (by decide) ?_
        have hP9 := hP.sub (ws' := [(h0, .inr (8, [.ref h1, .int a0, .ref h2, .ref h17, .ref h27, .ref h31, .ref h44, .ref h51, .ref h53, .ref h55, .ref h62, .ref h69])), (h17, .inr (6, [.ref h18, .ref h19, .ref h20, .ref h21, .ref h22, .ref h23, .int a18, .int a19, .int a20, .int a21])), (h27, .inr (4, [.ref h28, .ref h29, .int a23, .int a24, .int a25, .int a26]))]) [0, 1, 2] rfl
        have hD9 := hD.sub (ws' := [(h0, .inr (8, [.ref h1, .int a0, .ref h2, .ref h17, .ref h27, .ref h31, .ref h44, .ref h51, .ref h53, .ref h55, .ref h62, .ref h69])), (h17, .inr (6, [.ref h18, .ref h19, .ref h20, .ref h21, .ref h22, .ref h23, .int a18, .int a19, .int a20, .int a21])), (h27, .inr (4, [.ref h28, .ref h29, .int a23, .int a24, .int a25, .int a26]))]) [0, 1, 2] (by decide) rfl
        exact W.zret (v := 1) hx hb hr (rfl) (fun t ht hW => ⟨⟨1, (), rfl, ⟨(rg_mono (rg_k (x := 1) (c := 1) (by decide)) (by decide) (by decide)), fun _ => (rg_mono h_6 (by decide) (by decide)), fun _ => (rg_mono h_11 (by decide) (by decide))⟩, ⟨by rw [ht]; exact hP9, hD9⟩⟩, hS.F ht⟩) hS.2.2 dX8_isPair_26
def v_s_X8_since : List Cond := Cond.code yX8_since cX8_since 3 (some .int) :: ([Cond.methodLink RX8 134 yX8_isPair, Cond.instanceMethod yX8_isPair, Cond.selects RX8 yX8_isPair yX8_isPair, Cond.initialized RX8, Cond.fieldLink RX8 34 "MayRings" "past" "LMayRings$Past;", Cond.methodLink RX8 117 yX4_ago, Cond.instanceMethod yX4_ago, Cond.selects RX4 yX4_ago yX4_ago, Cond.initialized RX4] ++ (wsX80 ++ (v_s_X8_isPair ++ (v_s_X4_ago ++ ([])))))
theorem k_s_X8_since : GoodIn lw_tbl v_s_X8_since := gd_c (List.mem_of_getElem? (i := 832) (by decide +kernel)) rfl (goodIn_app (gd_c (List.mem_of_getElem? (i := 833) (by decide +kernel)) rfl (gd_c (List.mem_of_getElem? (i := 835) (by decide +kernel)) rfl (gd_c (List.mem_of_getElem? (i := 28) (by decide +kernel)) rfl (gd_c (List.mem_of_getElem? (i := 130) (by decide +kernel)) rfl (gd_c (List.mem_of_getElem? (i := 535) (by decide +kernel)) rfl (gd_c (List.mem_of_getElem? (i := 795) (by decide +kernel)) rfl (gd_c (List.mem_of_getElem? (i := 796) (by decide +kernel)) rfl (gd_c (List.mem_of_getElem? (i := 797) (by decide +kernel)) rfl (gd_c (List.mem_of_getElem? (i := 139) (by decide +kernel)) rfl (gd_nil)))))))))) (goodIn_app kfX8 (goodIn_app k_s_X8_isPair (goodIn_app k_s_X4_ago (gd_nil)))))
set_option maxHeartbeats 2000000 in
set_option maxRecDepth 100000 in
theorem c_s_X8_since (l : Launch) (dC : Nat → ClassId) (dI : Nat → Nat → Nat) (cB cI cJ cZ cP : ClassId) (h0 : Nat) (h1 : Nat) (a0 : Int32) (h2 : Nat) (h17 : Nat) (h18 : Nat) (h19 : Nat) (h20 : Nat) (h21 : Nat) (h22 : Nat) (h23 : Nat) (a18 : Int32) (ha18 : rg (0) (9) a18) (a19 : Int32) (a20 : Int32) (a21 : Int32) (h27 : Nat) (h28 : Nat) (g21 : Nat → Int32) (h29 : Nat) (a23 : Int32) (a24 : Int32) (ha24 : rg (0) (511) a24) (a25 : Int32) (a26 : Int32) (h31 : Nat) (h44 : Nat) (h51 : Nat) (h53 : Nat) (h55 : Nat) (h62 : Nat) (h69 : Nat) (p0 : Int32) (p1 : Int32) (sz : Nat) : Met l yX8_since v_s_X8_since ({ frames := 3, cells := 0, slots := 0, locals := 64 }) (va_Pc [.ref h0, .int p0, .int p1] (fun U => U.heap.size = sz ∧ va_P (dC, dI) vwCl [(h0, .inr (8, [.ref h1, .int a0, .ref h2, .ref h17, .ref h27, .ref h31, .ref h44, .ref h51, .ref h53, .ref h55, .ref h62, .ref h69])), (h17, .inr (6, [.ref h18, .ref h19, .ref h20, .ref h21, .ref h22, .ref h23, .int a18, .int a19, .int a20, .int a21])), (h27, .inr (4, [.ref h28, .ref h29, .int a23, .int a24, .int a25, .int a26])), (h28, .inl (cI, 81, .inl g21))] U.heap ∧ va_K (dC, dI) vwCl (ty5 cB cI cJ cZ cP) U ∧ va_D (fun _ => True) [(h0, .inr (8, [.ref h1, .int a0, .ref h2, .ref h17, .ref h27, .ref h31, .ref h44, .ref h51, .ref h53, .ref h55, .ref h62, .ref h69])), (h17, .inr (6, [.ref h18, .ref h19, .ref h20, .ref h21, .ref h22, .ref h23, .int a18, .int a19, .int a20, .int a21])), (h27, .inr (4, [.ref h28, .ref h29, .int a23, .int a24, .int a25, .int a26])), (h28, .inl (cI, 81, .inl g21))])) (va_Qi (fun (r : Int32) (u9 : Unit) => rg (-2147483648) (99) r) (fun u9 t => va_P (dC, dI) vwCl [(h0, .inr (8, [.ref h1, .int a0, .ref h2, .ref h17, .ref h27, .ref h31, .ref h44, .ref h51, .ref h53, .ref h55, .ref h62, .ref h69])), (h17, .inr (6, [.ref h18, .ref h19, .ref h20, .ref h21, .ref h22, .ref h23, .int a18, .int a19, .int a20, .int a21])), (h27, .inr (4, [.ref h28, .ref h29, .int a23, .int a24, .int a25, .int a26])), (h28, .inl (cI, 81, .inl g21))] t.heap ∧ va_D (va_A [(h0, .inr (8, [.ref h1, .int a0, .ref h2, .ref h17, .ref h27, .ref h31, .ref h44, .ref h51, .ref h53, .ref h55, .ref h62, .ref h69])), (h17, .inr (6, [.ref h18, .ref h19, .ref h20, .ref h21, .ref h22, .ref h23, .int a18, .int a19, .int a20, .int a21])), (h27, .inr (4, [.ref h28, .ref h29, .int a23, .int a24, .int a25, .int a26])), (h28, .inl (cI, 81, .inl g21))] sz) [(h0, .inr (8, [.ref h1, .int a0, .ref h2, .ref h17, .ref h27, .ref h31, .ref h44, .ref h51, .ref h53, .ref h55, .ref h62, .ref h69])), (h17, .inr (6, [.ref h18, .ref h19, .ref h20, .ref h21, .ref h22, .ref h23, .int a18, .int a19, .int a20, .int a21])), (h27, .inr (4, [.ref h28, .ref h29, .int a23, .int a24, .int a25, .int a26])), (h28, .inl (cI, 81, .inl g21))]) (va_A [(h0, .inr (8, [.ref h1, .int a0, .ref h2, .ref h17, .ref h27, .ref h31, .ref h44, .ref h51, .ref h53, .ref h55, .ref h62, .ref h69])), (h17, .inr (6, [.ref h18, .ref h19, .ref h20, .ref h21, .ref h22, .ref h23, .int a18, .int a19, .int a20, .int a21])), (h27, .inr (4, [.ref h28, .ref h29, .int a23, .int a24, .int a25, .int a26])), (h28, .inl (cI, 81, .inl g21))] sz)) 0 0 (va_A [(h0, .inr (8, [.ref h1, .int a0, .ref h2, .ref h17, .ref h27, .ref h31, .ref h44, .ref h51, .ref h53, .ref h55, .ref h62, .ref h69])), (h17, .inr (6, [.ref h18, .ref h19, .ref h20, .ref h21, .ref h22, .ref h23, .int a18, .int a19, .int a20, .int a21])), (h27, .inr (4, [.ref h28, .ref h29, .int a23, .int a24, .int a25, .int a26])), (h28, .inl (cI, 81, .inl g21))] sz) := by
  refine Met.ofW (cc := cX8_since) (maxL := 3) (ret := (some .int)) (by decide) rfl ?_
  intro p e s m args below meth c s₁ B hml hv
  obtain ⟨rfl, hsz, hP, hK, hD0⟩ := hv
  have hx := B.exec
  have hb := B.bytes
  have hr := B.returns
  have hts := atoms_spec (ws := v_s_X8_since) B.pre
  have hown : s.vm.findClass RX8 = some m.cls := findClass_of_methodNamed B.named
  have hlocks := B.notSynchronized
  have hinX8 : ∀ w ∈ wsX80, w ∈ v_s_X8_since := fun _ h => List.mem_cons_of_mem _ (List.mem_append_right _ (List.mem_append_left _ h))
  subst hsz
  have hD := hD0.self (sz := s.heap.size)
  generalize hAe : va_A [(h0, .inr (8, [.ref h1, .int a0, .ref h2, .ref h17, .ref h27, .ref h31, .ref h44, .ref h51, .ref h53, .ref h55, .ref h62, .ref h69])), (h17, .inr (6, [.ref h18, .ref h19, .ref h20, .ref h21, .ref h22, .ref h23, .int a18, .int a19, .int a20, .int a21])), (h27, .inr (4, [.ref h28, .ref h29, .int a23, .int a24, .int a25, .int a26])), (h28, .inl (cI, 81, .inl g21))] s.heap.size = A at hD ⊢
  have hA : ∀ q : Nat, s.heap.size ≤ q → A q := fun q h => by rw [← hAe]; exact Or.inr h
  have hP : va_P (dC, dI) vwCl [(h0, .inr (8, [.ref h1, .int a0, .ref h2, .ref h17, .ref h27, .ref h31, .ref h44, .ref h51, .ref h53, .ref h55, .ref h62, .ref h69])), (h17, .inr (6, [.ref h18, .ref h19, .ref h20, .ref h21, .ref h22, .ref h23, .int a18, .int a19, .int a20, .int a21])), (h27, .inr (4, [.ref h28, .ref h29, .int a23, .int a24, .int a25, .int a26])), (h28, .inl (cI, 81, .inl g21))] s.heap := hP
  have hl := lv_entry ([.ref h0, .int p0, .int p1]) (n := 3) (Nat.le_of_ble_eq_true rfl)
  rw [lg_entry_eq]
  generalize (lg_sl ([.ref h0, .int p0, .int p1]) ++ List.replicate (3 - (lg_sl ([.ref h0, .int p0, .int p1])).length) Slot.unset).toArray = ls at hl ⊢
  have hl : lv_has ls 3 [(0, .ref h0), (1, .int p0), (2, .int p1)] := hl
  refine W_gen (A := A) hP (fun H locs hP hS => ?_)
  refine lv_aload_n hx hb dX8_since_0 rfl (lv_at hl 0 rfl) ?_
  refine lv_iload_n hx hb dX8_since_1 rfl (lv_at hl 1 rfl) ?_
  refine lv_iload_n hx hb dX8_since_2 rfl (lv_at hl 2 rfl) ?_
  have hPc := hP.sub (ws' := [(h0, .inr (8, [.ref h1, .int a0, .ref h2, .ref h17, .ref h27, .ref h31, .ref h44, .ref h51, .ref h53, .ref h55, .ref h62, .ref h69])), (h17, .inr (6, [.ref h18, .ref h19, .ref h20, .ref h21, .ref h22, .ref h23, .int a18, .int a19, .int a20, .int a21])), (h27, .inr (4, [.ref h28, .ref h29, .int a23, .int a24, .int a25, .int a26]))]) [0, 1, 2] rfl
  have hDc := hD.sub (ws' := [(h0, .inr (8, [.ref h1, .int a0, .ref h2, .ref h17, .ref h27, .ref h31, .ref h44, .ref h51, .ref h53, .ref h55, .ref h62, .ref h69])), (h17, .inr (6, [.ref h18, .ref h19, .ref h20, .ref h21, .ref h22, .ref h23, .int a18, .int a19, .int a20, .int a21])), (h27, .inr (4, [.ref h28, .ref h29, .int a23, .int a24, .int a25, .int a26]))]) [0, 1, 2] (by decide) rfl
  have hFc := va_free (wc := [(h0, .inr (8, [.ref h1, .int a0, .ref h2, .ref h17, .ref h27, .ref h31, .ref h44, .ref h51, .ref h53, .ref h55, .ref h62, .ref h69])), (h17, .inr (6, [.ref h18, .ref h19, .ref h20, .ref h21, .ref h22, .ref h23, .int a18, .int a19, .int a20, .int a21])), (h27, .inr (4, [.ref h28, .ref h29, .int a23, .int a24, .int a25, .int a26]))]) hD hS hA [0, 1, 2] rfl
  refine va_calli (va_runV (As := [.int p0, .int p1]) (rest := []) ⟨hx, hb, hml, hown, hts⟩ (c_s_X8_isPair l dC dI cB cI cJ cZ cP h0 h1 a0 h2 h17 h18 h19 h20 h21 h22 h23 a18 (rg_mono ha18 (by decide) (by decide)) a19 a20 a21 h27 h28 h29 a23 a24 (rg_mono ha24 (by decide) (by decide)) a25 a26 h31 h44 h51 h53 h55 h62 h69 p0 p1 H.size) (cwV 2 hts (gd_V (List.mem_of_getElem? (i := 1) rfl) (List.mem_of_getElem? (i := 2) rfl) (List.mem_of_getElem? (i := 3) rfl) (List.mem_of_getElem? (i := 4) rfl) (gd_mono k_s_X8_isPair (fun _ h => List.mem_cons_of_mem _ (List.mem_append_right _ (List.mem_append_right _ (List.mem_append_left _ h)))))) rfl rfl rfl (by decide +kernel) ⟨Nat.le_of_ble_eq_true rfl, Nat.le_of_ble_eq_true rfl⟩) ⟨fun a U g mk q => by obtain ⟨q0, q1, qP, qK, qD⟩ := q; exact ⟨q0, q1, qP, va_K.moved (u := U) (U := U.calling g mk a) (Vm.Alike.refl U.vm) qK, qD⟩, va_recv hK hPc (ci := 8) (q0 := 0) rfl rfl, fun U hU hW => ⟨rfl, by rw [hU], by rw [hU]; exact hPc, va_K.moved hW.alike hK, hDc.weaken (fun _ _ _ _ => trivial)⟩⟩ rfl rfl hl.1 rfl (lv_room (Nat.le_of_ble_eq_true rfl)) dX8_since_3 ⟨Nat.le_of_ble_eq_true rfl, Nat.le_of_ble_eq_true rfl⟩) hS (fun q _ h => hFc q h) hFc (fun r_1 u t H1 locs ht hvm hw hB hz1 hk1 hS => ?_)
  obtain ⟨hP1, hD1⟩ := hB
  rw [ht] at hP1
  obtain ⟨hP, hD⟩ := va_join (wr := [(h28, .inl (cI, 81, .inl g21))]) (w1 := [(h0, .inr (8, [.ref h1, .int a0, .ref h2, .ref h17, .ref h27, .ref h31, .ref h44, .ref h51, .ref h53, .ref h55, .ref h62, .ref h69])), (h17, .inr (6, [.ref h18, .ref h19, .ref h20, .ref h21, .ref h22, .ref h23, .int a18, .int a19, .int a20, .int a21])), (h27, .inr (4, [.ref h28, .ref h29, .int a23, .int a24, .int a25, .int a26]))]) hP hD [0, 1, 2] [3] rfl rfl (by decide) (by decide) hk1 hFc hP1 hD1
  generalize H1 = H at hP hS ⊢
  have hP : va_P (dC, dI) vwCl [(h28, .inl (cI, 81, .inl g21)), (h0, .inr (8, [.ref h1, .int a0, .ref h2, .ref h17, .ref h27, .ref h31, .ref h44, .ref h51, .ref h53, .ref h55, .ref h62, .ref h69])), (h17, .inr (6, [.ref h18, .ref h19, .ref h20, .ref h21, .ref h22, .ref h23, .int a18, .int a19, .int a20, .int a21])), (h27, .inr (4, [.ref h28, .ref h29, .int a23, .int a24, .int a25, .int a26]))] H := hP
  have hD : va_D A [(h28, .inl (cI, 81, .inl g21)), (h0, .inr (8, [.ref h1, .int a0, .ref h2, .ref h17, .ref h27, .ref h31, .ref h44, .ref h51, .ref h53, .ref h55, .ref h62, .ref h69])), (h17, .inr (6, [.ref h18, .ref h19, .ref h20, .ref h21, .ref h22, .ref h23, .int a18, .int a19, .int a20, .int a21])), (h27, .inr (4, [.ref h28, .ref h29, .int a23, .int a24, .int a25, .int a26]))] := hD
  have hr_1 : rg (0) (1) r_1 := hw.1
  have kr_1_0 : rg (1) (1) r_1 → rg (0) (8) p0 := hw.2.1
  have kr_1_1 : rg (1) (1) r_1 → rg (0) (8) p1 := hw.2.2
  refine lv_if_eq (tgt := 21) hx hb dX8_since_6 (by decide) (fun c_2 => ?_) (fun c_2 => ?_)
  · skip
    have h_3 : rg (0) (0) r_1 := by have ha := hr_1; have hb_ := (rg_k (x := 0) (c := 0) (by decide)); simp only [rg, fa_lt, fa_le, fa_eq, (by decide : (0 : Int32).toInt = 0)] at ha hb_ c_2; simp only [rg]; omega
    refine lv_iconst (v := (-1)) hx hb dX8_since_21 (by decide) ?_
    have hP9 := hP.sub (ws' := [(h0, .inr (8, [.ref h1, .int a0, .ref h2, .ref h17, .ref h27, .ref h31, .ref h44, .ref h51, .ref h53, .ref h55, .ref h62, .ref h69])), (h17, .inr (6, [.ref h18, .ref h19, .ref h20, .ref h21, .ref h22, .ref h23, .int a18, .int a19, .int a20, .int a21])), (h27, .inr (4, [.ref h28, .ref h29, .int a23, .int a24, .int a25, .int a26])), (h28, .inl (cI, 81, .inl g21))]) [1, 2, 3, 0] rfl
    have hD9 := hD.sub (ws' := [(h0, .inr (8, [.ref h1, .int a0, .ref h2, .ref h17, .ref h27, .ref h31, .ref h44, .ref h51, .ref h53, .ref h55, .ref h62, .ref h69])), (h17, .inr (6, [.ref h18, .ref h19, .ref h20, .ref h21, .ref h22, .ref h23, .int a18, .int a19, .int a20, .int a21])), (h27, .inr (4, [.ref h28, .ref h29, .int a23, .int a24, .int a25, .int a26])), (h28, .inl (cI, 81, .inl g21))]) [1, 2, 3, 0] (by decide) rfl
    exact W.iret (v := (-1)) hx hb hr (fun t ht hW => ⟨⟨(-1), (), rfl, (rg_mono (rg_k (x := (-1)) (c := -1) (by decide)) (by decide) (by decide)), ⟨by rw [ht]; exact hP9, hD9⟩⟩, hS.F ht⟩) hS.2.2 dX8_since_22
  · skip
    have h_4 : rg (1) (1) r_1 := by have ha := hr_1; have hb_ := (rg_k (x := 0) (c := 0) (by decide)); simp only [rg, fa_lt, fa_le, fa_eq, (by decide : (0 : Int32).toInt = 0)] at ha hb_ c_2; simp only [rg]; omega
    have h_5 : rg (0) (8) p0 := rg_meet (rg_any p0) (kr_1_0 (rg_mono h_4 (by decide) (by decide))) (by decide) (by decide)
    have h_6 : rg (0) (8) p1 := rg_meet (rg_any p1) (kr_1_1 (rg_mono h_4 (by decide) (by decide))) (by decide) (by decide)
    refine lv_aload_n hx hb dX8_since_9 rfl (lv_at hl 0 rfl) ?_
    refine va_get (D := (dC, dI)) (ci := 8) (v := .ref h27) (C := RX8) (T := TX8) (N := 12) hx hb hts hinX8 hown hK hP 1 rfl rfl 4 (by decide) (hts (.fieldLink RX8 34 "MayRings" "past" "LMayRings$Past;") (List.mem_of_getElem? (i := 5) rfl)) (fun _ h9 => h9) rfl dX8_since_10 ?_
    refine lv_iload_n hx hb dX8_since_13 rfl (lv_at hl 1 rfl) ?_
    refine lv_iload_n hx hb dX8_since_14 rfl (lv_at hl 2 rfl) ?_
    have hPc := hP.sub (ws' := [(h27, .inr (4, [.ref h28, .ref h29, .int a23, .int a24, .int a25, .int a26])), (h28, .inl (cI, 81, .inl g21))]) [3, 0] rfl
    have hDc := hD.sub (ws' := [(h27, .inr (4, [.ref h28, .ref h29, .int a23, .int a24, .int a25, .int a26])), (h28, .inl (cI, 81, .inl g21))]) [3, 0] (by decide) rfl
    have hFc := va_free (wc := [(h27, .inr (4, [.ref h28, .ref h29, .int a23, .int a24, .int a25, .int a26])), (h28, .inl (cI, 81, .inl g21))]) hD hS hA [3, 0] rfl
    refine va_calli (va_runV (As := [.int p0, .int p1]) (rest := []) ⟨hx, hb, hml, hown, hts⟩ (c_s_X4_ago l dC dI cB cI cJ cZ cP h27 h28 g21 h29 a23 a24 a25 a26 p0 (rg_mono h_5 (by decide) (by decide)) p1 (rg_mono h_6 (by decide) (by decide)) H.size) (cwV 2 hts (gd_V (List.mem_of_getElem? (i := 6) rfl) (List.mem_of_getElem? (i := 7) rfl) (List.mem_of_getElem? (i := 8) rfl) (List.mem_of_getElem? (i := 9) rfl) (gd_mono k_s_X4_ago (fun _ h => List.mem_cons_of_mem _ (List.mem_append_right _ (List.mem_append_right _ (List.mem_append_right _ (List.mem_append_left _ h))))))) rfl rfl rfl (by decide +kernel) ⟨Nat.le_of_ble_eq_true rfl, Nat.le_of_ble_eq_true rfl⟩) ⟨fun a U g mk q => by obtain ⟨q0, q1, qP, qK, qD⟩ := q; exact ⟨q0, q1, qP, va_K.moved (u := U) (U := U.calling g mk a) (Vm.Alike.refl U.vm) qK, qD⟩, va_recv hK hPc (ci := 4) (q0 := 0) rfl rfl, fun U hU hW => ⟨rfl, by rw [hU], by rw [hU]; exact hPc, va_K.moved hW.alike hK, hDc.weaken (fun _ _ _ _ => trivial)⟩⟩ rfl rfl hl.1 rfl (lv_room (Nat.le_of_ble_eq_true rfl)) dX8_since_15 ⟨Nat.le_of_ble_eq_true rfl, Nat.le_of_ble_eq_true rfl⟩) hS (fun q _ h => hFc q h) hFc (fun r_7 u t H1 locs ht hvm hw hB hz1 hk1 hS => ?_)
    obtain ⟨hP1, hD1⟩ := hB
    rw [ht] at hP1
    obtain ⟨hP, hD⟩ := va_join (wr := [(h0, .inr (8, [.ref h1, .int a0, .ref h2, .ref h17, .ref h27, .ref h31, .ref h44, .ref h51, .ref h53, .ref h55, .ref h62, .ref h69])), (h17, .inr (6, [.ref h18, .ref h19, .ref h20, .ref h21, .ref h22, .ref h23, .int a18, .int a19, .int a20, .int a21]))]) (w1 := [(h27, .inr (4, [.ref h28, .ref h29, .int a23, .int a24, .int a25, .int a26])), (h28, .inl (cI, 81, .inl g21))]) hP hD [3, 0] [1, 2] rfl rfl (by decide) (by decide) hk1 hFc hP1 hD1
    generalize H1 = H at hP hS ⊢
    have hP : va_P (dC, dI) vwCl [(h0, .inr (8, [.ref h1, .int a0, .ref h2, .ref h17, .ref h27, .ref h31, .ref h44, .ref h51, .ref h53, .ref h55, .ref h62, .ref h69])), (h17, .inr (6, [.ref h18, .ref h19, .ref h20, .ref h21, .ref h22, .ref h23, .int a18, .int a19, .int a20, .int a21])), (h27, .inr (4, [.ref h28, .ref h29, .int a23, .int a24, .int a25, .int a26])), (h28, .inl (cI, 81, .inl g21))] H := hP
    have hD : va_D A [(h0, .inr (8, [.ref h1, .int a0, .ref h2, .ref h17, .ref h27, .ref h31, .ref h44, .ref h51, .ref h53, .ref h55, .ref h62, .ref h69])), (h17, .inr (6, [.ref h18, .ref h19, .ref h20, .ref h21, .ref h22, .ref h23, .int a18, .int a19, .int a20, .int a21])), (h27, .inr (4, [.ref h28, .ref h29, .int a23, .int a24, .int a25, .int a26])), (h28, .inl (cI, 81, .inl g21))] := hD
    have hr_7 : rg (-2147483648) (99) r_7 := hw
    refine lv_goto (tgt := 22) hx hb dX8_since_18 (by decide) ?_
    have hP9 := hP.sub (ws' := [(h0, .inr (8, [.ref h1, .int a0, .ref h2, .ref h17, .ref h27, .ref h31, .ref h44, .ref h51, .ref h53, .ref h55, .ref h62, .ref h69])), (h17, .inr (6, [.ref h18, .ref h19, .ref h20, .ref h21, .ref h22, .ref h23, .int a18, .int a19, .int a20, .int a21])), (h27, .inr (4, [.ref h28, .ref h29, .int a23, .int a24, .int a25, .int a26])), (h28, .inl (cI, 81, .inl g21))]) [0, 1, 2, 3] rfl
    have hD9 := hD.sub (ws' := [(h0, .inr (8, [.ref h1, .int a0, .ref h2, .ref h17, .ref h27, .ref h31, .ref h44, .ref h51, .ref h53, .ref h55, .ref h62, .ref h69])), (h17, .inr (6, [.ref h18, .ref h19, .ref h20, .ref h21, .ref h22, .ref h23, .int a18, .int a19, .int a20, .int a21])), (h27, .inr (4, [.ref h28, .ref h29, .int a23, .int a24, .int a25, .int a26])), (h28, .inl (cI, 81, .inl g21))]) [0, 1, 2, 3] (by decide) rfl
    exact W.iret (v := r_7) hx hb hr (fun t ht hW => ⟨⟨r_7, (), rfl, (rg_mono hr_7 (by decide) (by decide)), ⟨by rw [ht]; exact hP9, hD9⟩⟩, hS.F ht⟩) hS.2.2 dX8_since_22
def v_s_X0_keepApart : List Cond := Cond.code yX0_keepApart cX0_keepApart 5 none :: ([Cond.fieldLink RX0 11 "MayRings$Families" "sets" "[I", Cond.fieldLink RX0 34 "MayRings$Families" "restCount" "I", Cond.fieldLink RX0 30 "MayRings$Families" "count" "I", Cond.fieldLink RX0 18 "MayRings$Families" "rest" "[I"] ++ (wsX00 ++ ([])))
theorem k_s_X0_keepApart : GoodIn lw_tbl v_s_X0_keepApart := gd_c (List.mem_of_getElem? (i := 1078) (by decide +kernel)) rfl (goodIn_app (gd_c (List.mem_of_getElem? (i := 500) (by decide +kernel)) rfl (gd_c (List.mem_of_getElem? (i := 507) (by decide +kernel)) rfl (gd_c (List.mem_of_getElem? (i := 506) (by decide +kernel)) rfl (gd_c (List.mem_of_getElem? (i := 502) (by decide +kernel)) rfl (gd_nil))))) (goodIn_app kfX0 (gd_nil)))
set_option maxHeartbeats 2000000 in
set_option maxRecDepth 100000 in
theorem c_s_X0_keepApart (l : Launch) (dC : Nat → ClassId) (dI : Nat → Nat → Nat) (cB cI cJ cZ cP : ClassId) (h0 : Nat) (h1 : Nat) (g0 : Nat → Int32) (h2 : Nat) (h3 : Nat) (g2 : Nat → Int32) (h4 : Nat) (h5 : Nat) (h6 : Nat) (a0 : Int32) (ha0 : rg (0) (2520) a0) (a1 : Int32) (a2 : Int32) (a3 : Int32) (p0 : Int32) (hp0 : rg (0) (2519) p0) (p1 : Int32) (hp1 : rg (0) (2520) p1) (sz : Nat) : Met l yX0_keepApart v_s_X0_keepApart ({ frames := 0, cells := 0, slots := 0, locals := 0 }) (va_Pc [.ref h0, .int p0, .int p1] (fun U => U.heap.size = sz ∧ va_P (dC, dI) vwCl [(h0, .inr (0, [.ref h1, .ref h2, .ref h3, .ref h4, .ref h5, .ref h6, .int a0, .int a1, .int a2, .int a3])), (h1, .inl (cI, 2520, .inl g0)), (h3, .inl (cI, 2520, .inl g2))] U.heap ∧ va_K (dC, dI) vwCl (ty5 cB cI cJ cZ cP) U ∧ va_D (fun _ => True) [(h0, .inr (0, [.ref h1, .ref h2, .ref h3, .ref h4, .ref h5, .ref h6, .int a0, .int a1, .int a2, .int a3])), (h1, .inl (cI, 2520, .inl g0)), (h3, .inl (cI, 2520, .inl g2))])) (va_Qv (fun _ : Unit => True) (fun _ t => ∃ (z0 : Int32) (z1 : Nat → Int32), rg (0) (2520) z0 ∧ va_P (dC, dI) vwCl [(h0, .inr (0, [.ref h1, .ref h2, .ref h3, .ref h4, .ref h5, .ref h6, .int a0, .int z0, .int a2, .int a3])), (h1, .inl (cI, 2520, .inl g0)), (h3, .inl (cI, 2520, .inl z1))] t.heap ∧ va_D (va_A [(h0, .inr (0, [.ref h1, .ref h2, .ref h3, .ref h4, .ref h5, .ref h6, .int a0, .int a1, .int a2, .int a3])), (h1, .inl (cI, 2520, .inl g0)), (h3, .inl (cI, 2520, .inl g2))] sz) [(h0, .inr (0, [.ref h1, .ref h2, .ref h3, .ref h4, .ref h5, .ref h6, .int a0, .int z0, .int a2, .int a3])), (h1, .inl (cI, 2520, .inl g0)), (h3, .inl (cI, 2520, .inl z1))]) (va_A [(h0, .inr (0, [.ref h1, .ref h2, .ref h3, .ref h4, .ref h5, .ref h6, .int a0, .int a1, .int a2, .int a3])), (h1, .inl (cI, 2520, .inl g0)), (h3, .inl (cI, 2520, .inl g2))] sz)) 0 0 (va_A [(h0, .inr (0, [.ref h1, .ref h2, .ref h3, .ref h4, .ref h5, .ref h6, .int a0, .int a1, .int a2, .int a3])), (h1, .inl (cI, 2520, .inl g0)), (h3, .inl (cI, 2520, .inl g2))] sz) := by
  refine Met.ofW (cc := cX0_keepApart) (maxL := 5) (ret := none) (by decide) rfl ?_
  intro p e s m args below meth c s₁ B hml hv
  obtain ⟨rfl, hsz, hP, hK, hD0⟩ := hv
  have hx := B.exec
  have hb := B.bytes
  have hr := B.returns
  have hts := atoms_spec (ws := v_s_X0_keepApart) B.pre
  have hown : s.vm.findClass RX0 = some m.cls := findClass_of_methodNamed B.named
  have hlocks := B.notSynchronized
  have hinX0 : ∀ w ∈ wsX00, w ∈ v_s_X0_keepApart := fun _ h => List.mem_cons_of_mem _ (List.mem_append_right _ (List.mem_append_left _ h))
  subst hsz
  have hD := hD0.self (sz := s.heap.size)
  generalize hAe : va_A [(h0, .inr (0, [.ref h1, .ref h2, .ref h3, .ref h4, .ref h5, .ref h6, .int a0, .int a1, .int a2, .int a3])), (h1, .inl (cI, 2520, .inl g0)), (h3, .inl (cI, 2520, .inl g2))] s.heap.size = A at hD ⊢
  have hA : ∀ q : Nat, s.heap.size ≤ q → A q := fun q h => by rw [← hAe]; exact Or.inr h
  have hP : va_P (dC, dI) vwCl [(h0, .inr (0, [.ref h1, .ref h2, .ref h3, .ref h4, .ref h5, .ref h6, .int a0, .int a1, .int a2, .int a3])), (h1, .inl (cI, 2520, .inl g0)), (h3, .inl (cI, 2520, .inl g2))] s.heap := hP
  have hl := lv_entry ([.ref h0, .int p0, .int p1]) (n := 5) (Nat.le_of_ble_eq_true rfl)
  rw [lg_entry_eq]
  generalize (lg_sl ([.ref h0, .int p0, .int p1]) ++ List.replicate (5 - (lg_sl ([.ref h0, .int p0, .int p1])).length) Slot.unset).toArray = ls at hl ⊢
  have hl : lv_has ls 5 [(0, .ref h0), (1, .int p0), (2, .int p1)] := hl
  refine W_gen (A := A) hP (fun H locs hP hS => ?_)
  refine lv_aload_n hx hb dX0_keepApart_0 rfl (lv_at hl 0 rfl) ?_
  refine va_get (D := (dC, dI)) (ci := 0) (v := .ref h1) (C := RX0) (T := TX0) (N := 10) hx hb hts hinX0 hown hK hP 0 rfl rfl 0 (by decide) (hts (.fieldLink RX0 11 "MayRings$Families" "sets" "[I") (List.mem_of_getElem? (i := 1) rfl)) (fun _ h9 => h9) rfl dX0_keepApart_1 ?_
  refine lv_iload_n hx hb dX0_keepApart_4 rfl (lv_at hl 1 rfl) ?_
  refine va_iald hx hb hK hP 1 1 rfl rfl (rg_in (n := 2520) (rg_mono hp0 (by decide) (by decide))) dX0_keepApart_5 ?_
  refine lv_topi (fun x_1 ex_1 => ?_)
  refine lv_istore_n (lv' := [(3, .int x_1), (0, .ref h0), (1, .int p0), (2, .int p1)]) hx hb dX0_keepApart_6 rfl hl (by decide) rfl (fun ls hl => ?_)
  refine lv_aload_n hx hb dX0_keepApart_7 rfl (lv_at hl 1 rfl) ?_
  refine lv_iconst (v := 0) hx hb dX0_keepApart_8 (by decide) ?_
  refine va_put (D := (dC, dI)) (ci := 0) (v := .int 0) (ty := .int) (C := RX0) (T := TX0) (N := 10) hx hb hts hinX0 tyX0 tyX0_ok nmX0 hown hK hP hD hS 0 rfl rfl 7 (by decide) (hts (.fieldLink RX0 34 "MayRings$Families" "restCount" "I") (List.mem_of_getElem? (i := 2) rfl)) (fun _ h9 => h9) rfl (by decide +kernel) (rfl) (rfl) (Nat.le_of_ble_eq_true rfl) dX0_keepApart_9 (fun H locs hP hD hS => ?_)
  have hP : va_P (dC, dI) vwCl [(h0, .inr (0, [.ref h1, .ref h2, .ref h3, .ref h4, .ref h5, .ref h6, .int a0, .int 0, .int a2, .int a3])), (h1, .inl (cI, 2520, .inl g0)), (h3, .inl (cI, 2520, .inl g2))] H := hP
  have hD : va_D A [(h0, .inr (0, [.ref h1, .ref h2, .ref h3, .ref h4, .ref h5, .ref h6, .int a0, .int 0, .int a2, .int a3])), (h1, .inl (cI, 2520, .inl g0)), (h3, .inl (cI, 2520, .inl g2))] := hD
  refine lv_iload_n hx hb dX0_keepApart_12 rfl (lv_at hl 3 rfl) ?_
  refine lv_istore (lv' := [(4, .int p1), (3, .int x_1), (0, .ref h0), (1, .int p0), (2, .int p1)]) hx hb dX0_keepApart_13 hl (by decide) rfl (fun ls hl => ?_)
  refine W_loopM (σ := Int32 × (Nat → Int32) × Int32) (fun u H locs ls => va_P (dC, dI) vwCl [(h0, .inr (0, [.ref h1, .ref h2, .ref h3, .ref h4, .ref h5, .ref h6, .int a0, .int u.2.2, .int a2, .int a3])), (h1, .inl (cI, 2520, .inl g0)), (h3, .inl (cI, 2520, .inl u.2.1))] H ∧ va_D A [(h0, .inr (0, [.ref h1, .ref h2, .ref h3, .ref h4, .ref h5, .ref h6, .int a0, .int u.2.2, .int a2, .int a3])), (h1, .inl (cI, 2520, .inl g0)), (h3, .inl (cI, 2520, .inl u.2.1))] ∧ va_S A s.heap H locs ∧ lv_has ls 5 [(4, .int u.1), (3, .int x_1), (0, .ref h0), (1, .int p0), (2, .int p1)] ∧ rg (0) (2520) u.1 ∧ rg (0) (2520) u.2.2 ∧ (u.2.2.toInt ≤ u.1.toInt)) (fun u => ((2520) - u.1.toInt).toNat) 15 [] ?_ (p1, g2, 0) H locs ls ⟨hP, hD, hS, hl, (rg_mono hp1 (by decide) (by decide)), (rg_mono (rg_k (x := 0) (c := 0) (by decide)) (by decide) (by decide)), (show (0 : Int32).toInt ≤ p1.toInt by have hg0 := hp1; simp only [rg] at hg0; try simp only [(by decide : (0 : Int32).toInt = 0)]; omega)⟩
  rintro ⟨x_27, f_28, x_29⟩ H locs ls ⟨hP, hD, hS, hl, hx_27, hx_29, ivih_42_0⟩ ih_42
  have ivih_42_0 : x_29.toInt ≤ x_27.toInt := ivih_42_0
  have hP : va_P (dC, dI) vwCl [(h0, .inr (0, [.ref h1, .ref h2, .ref h3, .ref h4, .ref h5, .ref h6, .int a0, .int x_29, .int a2, .int a3])), (h1, .inl (cI, 2520, .inl g0)), (h3, .inl (cI, 2520, .inl f_28))] H := hP
  have hD : va_D A [(h0, .inr (0, [.ref h1, .ref h2, .ref h3, .ref h4, .ref h5, .ref h6, .int a0, .int x_29, .int a2, .int a3])), (h1, .inl (cI, 2520, .inl g0)), (h3, .inl (cI, 2520, .inl f_28))] := hD
  have hl : lv_has ls 5 [(4, .int x_27), (3, .int x_1), (0, .ref h0), (1, .int p0), (2, .int p1)] := hl
  have hx_27 : rg (0) (2520) x_27 := hx_27
  have hx_29 : rg (0) (2520) x_29 := hx_29
  refine lv_iload hx hb dX0_keepApart_15 (lv_at hl 0 rfl) ?_
  refine lv_aload_n hx hb dX0_keepApart_17 rfl (lv_at hl 2 rfl) ?_
  refine va_get (D := (dC, dI)) (ci := 0) (v := .int a0) (C := RX0) (T := TX0) (N := 10) hx hb hts hinX0 hown hK hP 0 rfl rfl 6 (by decide) (hts (.fieldLink RX0 30 "MayRings$Families" "count" "I") (List.mem_of_getElem? (i := 3) rfl)) (fun _ h9 => h9) rfl dX0_keepApart_18 ?_
  refine lv_icmp_ge (tgt := 68) hx hb dX0_keepApart_21 (by decide) (fun c_43 => ?_) (fun c_43 => ?_)
  · skip
    have hP9 := hP.sub (ws' := [(h0, .inr (0, [.ref h1, .ref h2, .ref h3, .ref h4, .ref h5, .ref h6, .int a0, .int x_29, .int a2, .int a3])), (h1, .inl (cI, 2520, .inl g0)), (h3, .inl (cI, 2520, .inl f_28))]) [0, 1, 2] rfl
    have hD9 := hD.sub (ws' := [(h0, .inr (0, [.ref h1, .ref h2, .ref h3, .ref h4, .ref h5, .ref h6, .int a0, .int x_29, .int a2, .int a3])), (h1, .inl (cI, 2520, .inl g0)), (h3, .inl (cI, 2520, .inl f_28))]) [0, 1, 2] (by decide) rfl
    exact W.vret hx hb hr (fun t ht hW => ⟨⟨(), rfl, trivial, ⟨x_29, f_28, (rg_mono hx_29 (by decide) (by decide)), by rw [ht]; exact hP9, hD9⟩⟩, hS.F ht⟩) hS.2.2 dX0_keepApart_68
  · skip
    have h_44 : rg (0) (2519) x_27 := by have ha := hx_27; have hb_ := ha0; simp only [rg, fa_lt, fa_le, fa_eq] at ha hb_ c_43; simp only [rg]; omega
    have h_45 : rg (1) (2520) a0 := by have ha := hx_27; have hb_ := ha0; simp only [rg, fa_lt, fa_le, fa_eq] at ha hb_ c_43; simp only [rg]; omega
    refine lv_aload_n hx hb dX0_keepApart_24 rfl (lv_at hl 2 rfl) ?_
    refine va_get (D := (dC, dI)) (ci := 0) (v := .ref h1) (C := RX0) (T := TX0) (N := 10) hx hb hts hinX0 hown hK hP 0 rfl rfl 0 (by decide) (hts (.fieldLink RX0 11 "MayRings$Families" "sets" "[I") (List.mem_of_getElem? (i := 1) rfl)) (fun _ h9 => h9) rfl dX0_keepApart_25 ?_
    refine lv_iload hx hb dX0_keepApart_28 (lv_at hl 0 rfl) ?_
    refine va_iald hx hb hK hP 1 1 rfl rfl (rg_in (n := 2520) (rg_mono h_44 (by decide) (by decide))) dX0_keepApart_30 ?_
    refine lv_topi (fun x_46 ex_46 => ?_)
    refine lv_iload_n hx hb dX0_keepApart_31 rfl (lv_at hl 1 rfl) ?_
    refine lv_iand hx hb dX0_keepApart_32 ?_
    refine lv_topi (fun x_47 ex_47 => ?_)
    refine lv_if_ne (tgt := 62) hx hb dX0_keepApart_33 (by decide) (fun c_48 => ?_) (fun c_48 => ?_)
    · skip
      obtain ⟨x_49, ex_49⟩ : ∃ y : Int32, y = x_27 + Int32.ofInt (1) := ⟨_, rfl⟩
      have hx_49 : rg (1) (2520) x_49 := by rw [ex_49]; exact rg_mono (rg_add h_44 (rg_k (x := Int32.ofInt (1)) (c := 1) (by decide)) (by decide) (by decide)) (by decide) (by decide)
      have qx_49 : x_49.toInt = x_27.toInt + (1) := by rw [ex_49]; exact rg_addE h_44 (rg_k (x := Int32.ofInt (1)) (c := 1) (by decide)) (by decide) (by decide) (by decide)
      refine lv_iinc (v := x_49) (lv' := [(4, .int x_49), (3, .int x_1), (0, .ref h0), (1, .int p0), (2, .int p1)]) hx hb dX0_keepApart_62 hl (k := 0) rfl (ex_49.symm) (by decide) rfl (fun ls hl => ?_)
      clear ex_49
      refine lv_goto (tgt := 15) hx hb dX0_keepApart_65 (by decide) ?_
      exact ih_42 (x_49, f_28, x_29) H locs ls ⟨hP.sub (ws' := [(h0, .inr (0, [.ref h1, .ref h2, .ref h3, .ref h4, .ref h5, .ref h6, .int a0, .int x_29, .int a2, .int a3])), (h1, .inl (cI, 2520, .inl g0)), (h3, .inl (cI, 2520, .inl f_28))]) [0, 1, 2] rfl, hD.sub (ws' := [(h0, .inr (0, [.ref h1, .ref h2, .ref h3, .ref h4, .ref h5, .ref h6, .int a0, .int x_29, .int a2, .int a3])), (h1, .inl (cI, 2520, .inl g0)), (h3, .inl (cI, 2520, .inl f_28))]) [0, 1, 2] (by decide) rfl, hS, lv_sub hl [0, 1, 2, 3, 4] rfl, (rg_mono hx_49 (by decide) (by decide)), (rg_mono hx_29 (by decide) (by decide)), (show x_29.toInt ≤ x_49.toInt by have hg0 := hx_49; have hg1 := hx_29; simp only [rg] at hg0 hg1; omega)⟩ (by show ((2520) - x_49.toInt).toNat < ((2520) - x_27.toInt).toNat; have ha := h_44; simp only [rg] at ha; omega)
    · skip
      have h_50 : rg (0) (0) x_47 := by have ha := (rg_any x_47); have hb_ := (rg_k (x := 0) (c := 0) (by decide)); simp only [rg, fa_lt, fa_le, fa_eq, (by decide : (0 : Int32).toInt = 0)] at ha hb_ c_48; simp only [rg]; omega
      refine lv_aload_n hx hb dX0_keepApart_36 rfl (lv_at hl 2 rfl) ?_
      refine va_get (D := (dC, dI)) (ci := 0) (v := .ref h3) (C := RX0) (T := TX0) (N := 10) hx hb hts hinX0 hown hK hP 0 rfl rfl 2 (by decide) (hts (.fieldLink RX0 18 "MayRings$Families" "rest" "[I") (List.mem_of_getElem? (i := 4) rfl)) (fun _ h9 => h9) rfl dX0_keepApart_37 ?_
      refine lv_aload_n hx hb dX0_keepApart_40 rfl (lv_at hl 2 rfl) ?_
      refine va_get (D := (dC, dI)) (ci := 0) (v := .int x_29) (C := RX0) (T := TX0) (N := 10) hx hb hts hinX0 hown hK hP 0 rfl rfl 7 (by decide) (hts (.fieldLink RX0 34 "MayRings$Families" "restCount" "I") (List.mem_of_getElem? (i := 2) rfl)) (fun _ h9 => h9) rfl dX0_keepApart_41 ?_
      have h_51 : rg 0 2519 x_29 := by have ha := hx_29; have hb_ := h_44; simp only [rg] at ha hb_ ⊢; omega
      refine lv_aload_n hx hb dX0_keepApart_44 rfl (lv_at hl 2 rfl) ?_
      refine va_get (D := (dC, dI)) (ci := 0) (v := .ref h1) (C := RX0) (T := TX0) (N := 10) hx hb hts hinX0 hown hK hP 0 rfl rfl 0 (by decide) (hts (.fieldLink RX0 11 "MayRings$Families" "sets" "[I") (List.mem_of_getElem? (i := 1) rfl)) (fun _ h9 => h9) rfl dX0_keepApart_45 ?_
      refine lv_iload hx hb dX0_keepApart_48 (lv_at hl 0 rfl) ?_
      refine va_iald hx hb hK hP 1 1 rfl rfl (rg_in (n := 2520) (rg_mono h_44 (by decide) (by decide))) dX0_keepApart_50 ?_
      refine tp_v (.int x_46) (congrArg Value.int (ex_46.symm)) ?_
      refine va_iast hx hb hK hP hD hS 2 1 rfl rfl (rg_in (n := 2520) (rg_mono h_51 (by decide) (by decide))) dX0_keepApart_51 (fun H locs hP hD hS => ?_)
      obtain ⟨f_52, ef_52⟩ : ∃ f : Nat → Int32, f = upd f_28 (x_29 : Int32).toNatClampNeg x_46 := ⟨_, rfl⟩
      rw [← ef_52] at hP hD
      clear ef_52
      have hP : va_P (dC, dI) vwCl [(h0, .inr (0, [.ref h1, .ref h2, .ref h3, .ref h4, .ref h5, .ref h6, .int a0, .int x_29, .int a2, .int a3])), (h1, .inl (cI, 2520, .inl g0)), (h3, .inl (cI, 2520, .inl f_52))] H := hP
      have hD : va_D A [(h0, .inr (0, [.ref h1, .ref h2, .ref h3, .ref h4, .ref h5, .ref h6, .int a0, .int x_29, .int a2, .int a3])), (h1, .inl (cI, 2520, .inl g0)), (h3, .inl (cI, 2520, .inl f_52))] := hD
      refine lv_aload_n hx hb dX0_keepApart_52 rfl (lv_at hl 2 rfl) ?_
      refine lv_dup hx hb dX0_keepApart_53 rfl ?_
      refine va_get (D := (dC, dI)) (ci := 0) (v := .int x_29) (C := RX0) (T := TX0) (N := 10) hx hb hts hinX0 hown hK hP 0 rfl rfl 7 (by decide) (hts (.fieldLink RX0 34 "MayRings$Families" "restCount" "I") (List.mem_of_getElem? (i := 2) rfl)) (fun _ h9 => h9) rfl dX0_keepApart_54 ?_
      refine lv_iconst (v := 1) hx hb dX0_keepApart_57 (by decide) ?_
      refine lv_iadd hx hb dX0_keepApart_58 ?_
      refine lv_topi (fun x_53 ex_53 => ?_)
      have hx_53 : rg (1) (2520) x_53 := by rw [ex_53]; exact rg_mono (rg_add h_51 (rg_k (x := 1) (c := 1) (by decide)) (by decide) (by decide)) (by decide) (by decide)
      have qx_53 : x_53.toInt = x_29.toInt + (1) := by rw [ex_53]; exact rg_addE h_51 (rg_k (x := 1) (c := 1) (by decide)) (by decide) (by decide) trivial
      refine va_put (D := (dC, dI)) (ci := 0) (v := .int x_53) (ty := .int) (C := RX0) (T := TX0) (N := 10) hx hb hts hinX0 tyX0 tyX0_ok nmX0 hown hK hP hD hS 0 rfl rfl 7 (by decide) (hts (.fieldLink RX0 34 "MayRings$Families" "restCount" "I") (List.mem_of_getElem? (i := 2) rfl)) (fun _ h9 => h9) rfl (by decide +kernel) (rfl) (rfl) (Nat.le_of_ble_eq_true rfl) dX0_keepApart_59 (fun H locs hP hD hS => ?_)
      have hP : va_P (dC, dI) vwCl [(h0, .inr (0, [.ref h1, .ref h2, .ref h3, .ref h4, .ref h5, .ref h6, .int a0, .int x_53, .int a2, .int a3])), (h1, .inl (cI, 2520, .inl g0)), (h3, .inl (cI, 2520, .inl f_52))] H := hP
      have hD : va_D A [(h0, .inr (0, [.ref h1, .ref h2, .ref h3, .ref h4, .ref h5, .ref h6, .int a0, .int x_53, .int a2, .int a3])), (h1, .inl (cI, 2520, .inl g0)), (h3, .inl (cI, 2520, .inl f_52))] := hD
      obtain ⟨x_54, ex_54⟩ : ∃ y : Int32, y = x_27 + Int32.ofInt (1) := ⟨_, rfl⟩
      have hx_54 : rg (1) (2520) x_54 := by rw [ex_54]; exact rg_mono (rg_add h_44 (rg_k (x := Int32.ofInt (1)) (c := 1) (by decide)) (by decide) (by decide)) (by decide) (by decide)
      have qx_54 : x_54.toInt = x_27.toInt + (1) := by rw [ex_54]; exact rg_addE h_44 (rg_k (x := Int32.ofInt (1)) (c := 1) (by decide)) (by decide) (by decide) (by decide)
      refine lv_iinc (v := x_54) (lv' := [(4, .int x_54), (3, .int x_1), (0, .ref h0), (1, .int p0), (2, .int p1)]) hx hb dX0_keepApart_62 hl (k := 0) rfl (ex_54.symm) (by decide) rfl (fun ls hl => ?_)
      clear ex_54
      refine lv_goto (tgt := 15) hx hb dX0_keepApart_65 (by decide) ?_
      exact ih_42 (x_54, f_52, x_53) H locs ls ⟨hP.sub (ws' := [(h0, .inr (0, [.ref h1, .ref h2, .ref h3, .ref h4, .ref h5, .ref h6, .int a0, .int x_53, .int a2, .int a3])), (h1, .inl (cI, 2520, .inl g0)), (h3, .inl (cI, 2520, .inl f_52))]) [0, 1, 2] rfl, hD.sub (ws' := [(h0, .inr (0, [.ref h1, .ref h2, .ref h3, .ref h4, .ref h5, .ref h6, .int a0, .int x_53, .int a2, .int a3])), (h1, .inl (cI, 2520, .inl g0)), (h3, .inl (cI, 2520, .inl f_52))]) [0, 1, 2] (by decide) rfl, hS, lv_sub hl [0, 1, 2, 3, 4] rfl, (rg_mono hx_54 (by decide) (by decide)), (rg_mono hx_53 (by decide) (by decide)), (show x_53.toInt ≤ x_54.toInt by have hg0 := hx_54; have hg1 := hx_53; simp only [rg] at hg0 hg1; omega)⟩ (by show ((2520) - x_54.toInt).toNat < ((2520) - x_27.toInt).toNat; have ha := h_44; simp only [rg] at ha; omega)
def v_s_X7_keepsLetters : List Cond := Cond.code yX7_keepsLetters cX7_keepsLetters 5 (some .boolean) :: ([Cond.fieldLink RX7 37 "MayRings$Ways" "closes" "Z", Cond.fieldLink RX7 18 "MayRings$Ways" "must" "[I", Cond.fieldLink RX7 30 "MayRings$Ways" "houses" "I", Cond.fieldLink RX7 53 "MayRings$Ways" "start" "I"] ++ (wsX70 ++ ([])))
theorem k_s_X7_keepsLetters : GoodIn lw_tbl v_s_X7_keepsLetters := gd_c (List.mem_of_getElem? (i := 965) (by decide +kernel)) rfl (goodIn_app (gd_c (List.mem_of_getElem? (i := 457) (by decide +kernel)) rfl (gd_c (List.mem_of_getElem? (i := 446) (by decide +kernel)) rfl (gd_c (List.mem_of_getElem? (i := 452) (by decide +kernel)) rfl (gd_c (List.mem_of_getElem? (i := 464) (by decide +kernel)) rfl (gd_nil))))) (goodIn_app kfX7 (gd_nil)))
set_option maxHeartbeats 2000000 in
set_option maxRecDepth 100000 in
theorem c_s_X7_keepsLetters (l : Launch) (dC : Nat → ClassId) (dI : Nat → Nat → Nat) (cB cI cJ cZ cP : ClassId) (h0 : Nat) (h1 : Nat) (h2 : Nat) (h3 : Nat) (g2 : Nat → Int32) (hg2 : rgA (0) (511) g2) (h4 : Nat) (h5 : Nat) (h6 : Nat) (a0 : Int32) (a1 : Int32) (a2 : Int32) (ha2 : rg (0) (1) a2) (a3 : Int32) (a4 : Int32) (a5 : Int32) (a6 : Int32) (a7 : Int32) (ha7 : rg (0) (8) a7) (p0 : Int32) (hp0 : rg (0) (511) p0) (p1 : Int32) (hp1 : rg (0) (8) p1) (p2 : Int32) (hp2 : rg (0) (8) p2) (sz : Nat) : Met l yX7_keepsLetters v_s_X7_keepsLetters ({ frames := 0, cells := 0, slots := 0, locals := 0 }) (va_Pc [.ref h0, .int p0, .int p1, .int p2] (fun U => U.heap.size = sz ∧ va_P (dC, dI) vwCl [(h0, .inr (7, [.ref h1, .ref h2, .ref h3, .ref h4, .ref h5, .ref h6, .int a0, .int a1, .int a2, .int a3, .int a4, .int a5, .int a6, .int a7])), (h3, .inl (cI, 9, .inl g2))] U.heap ∧ va_K (dC, dI) vwCl (ty5 cB cI cJ cZ cP) U ∧ va_D (fun _ => True) [(h0, .inr (7, [.ref h1, .ref h2, .ref h3, .ref h4, .ref h5, .ref h6, .int a0, .int a1, .int a2, .int a3, .int a4, .int a5, .int a6, .int a7])), (h3, .inl (cI, 9, .inl g2))])) (va_Qi (fun (r : Int32) (u9 : Unit) => rg (0) (1) r) (fun u9 t => va_P (dC, dI) vwCl [(h0, .inr (7, [.ref h1, .ref h2, .ref h3, .ref h4, .ref h5, .ref h6, .int a0, .int a1, .int a2, .int a3, .int a4, .int a5, .int a6, .int a7])), (h3, .inl (cI, 9, .inl g2))] t.heap ∧ va_D (va_A [(h0, .inr (7, [.ref h1, .ref h2, .ref h3, .ref h4, .ref h5, .ref h6, .int a0, .int a1, .int a2, .int a3, .int a4, .int a5, .int a6, .int a7])), (h3, .inl (cI, 9, .inl g2))] sz) [(h0, .inr (7, [.ref h1, .ref h2, .ref h3, .ref h4, .ref h5, .ref h6, .int a0, .int a1, .int a2, .int a3, .int a4, .int a5, .int a6, .int a7])), (h3, .inl (cI, 9, .inl g2))]) (va_A [(h0, .inr (7, [.ref h1, .ref h2, .ref h3, .ref h4, .ref h5, .ref h6, .int a0, .int a1, .int a2, .int a3, .int a4, .int a5, .int a6, .int a7])), (h3, .inl (cI, 9, .inl g2))] sz)) 0 0 (va_A [(h0, .inr (7, [.ref h1, .ref h2, .ref h3, .ref h4, .ref h5, .ref h6, .int a0, .int a1, .int a2, .int a3, .int a4, .int a5, .int a6, .int a7])), (h3, .inl (cI, 9, .inl g2))] sz) := by
  refine Met.ofW (cc := cX7_keepsLetters) (maxL := 5) (ret := (some .boolean)) (by decide) rfl ?_
  intro p e s m args below meth c s₁ B hml hv
  obtain ⟨rfl, hsz, hP, hK, hD0⟩ := hv
  have hx := B.exec
  have hb := B.bytes
  have hr := B.returns
  have hts := atoms_spec (ws := v_s_X7_keepsLetters) B.pre
  have hown : s.vm.findClass RX7 = some m.cls := findClass_of_methodNamed B.named
  have hlocks := B.notSynchronized
  have hinX7 : ∀ w ∈ wsX70, w ∈ v_s_X7_keepsLetters := fun _ h => List.mem_cons_of_mem _ (List.mem_append_right _ (List.mem_append_left _ h))
  subst hsz
  have hD := hD0.self (sz := s.heap.size)
  generalize hAe : va_A [(h0, .inr (7, [.ref h1, .ref h2, .ref h3, .ref h4, .ref h5, .ref h6, .int a0, .int a1, .int a2, .int a3, .int a4, .int a5, .int a6, .int a7])), (h3, .inl (cI, 9, .inl g2))] s.heap.size = A at hD ⊢
  have hA : ∀ q : Nat, s.heap.size ≤ q → A q := fun q h => by rw [← hAe]; exact Or.inr h
  have hP : va_P (dC, dI) vwCl [(h0, .inr (7, [.ref h1, .ref h2, .ref h3, .ref h4, .ref h5, .ref h6, .int a0, .int a1, .int a2, .int a3, .int a4, .int a5, .int a6, .int a7])), (h3, .inl (cI, 9, .inl g2))] s.heap := hP
  have hl := lv_entry ([.ref h0, .int p0, .int p1, .int p2]) (n := 5) (Nat.le_of_ble_eq_true rfl)
  rw [lg_entry_eq]
  generalize (lg_sl ([.ref h0, .int p0, .int p1, .int p2]) ++ List.replicate (5 - (lg_sl ([.ref h0, .int p0, .int p1, .int p2])).length) Slot.unset).toArray = ls at hl ⊢
  have hl : lv_has ls 5 [(0, .ref h0), (1, .int p0), (2, .int p1), (3, .int p2)] := hl
  refine W_gen (A := A) hP (fun H locs hP hS => ?_)
  refine lv_iconst (v := 1) hx hb dX7_keepsLetters_0 (by decide) ?_
  refine lv_iload_n hx hb dX7_keepsLetters_1 rfl (lv_at hl 2 rfl) ?_
  refine lv_ishl hx hb dX7_keepsLetters_2 ?_
  refine lv_topi (fun x_1 ex_1 => ?_)
  have hx_1 : rg (1) (256) x_1 := by rw [ex_1]; exact rg_mono (rg_shl1 8 (rg_mono hp1 (by decide) (by decide)) (by decide)) (by decide) (by decide)
  refine lv_istore (lv' := [(4, .int x_1), (0, .ref h0), (1, .int p0), (2, .int p1), (3, .int p2)]) hx hb dX7_keepsLetters_3 hl (by decide) rfl (fun ls hl => ?_)
  refine lv_aload_n hx hb dX7_keepsLetters_5 rfl (lv_at hl 1 rfl) ?_
  refine va_get (D := (dC, dI)) (ci := 7) (v := .int a2) (C := RX7) (T := TX7) (N := 14) hx hb hts hinX7 hown hK hP 0 rfl rfl 8 (by decide) (hts (.fieldLink RX7 37 "MayRings$Ways" "closes" "Z") (List.mem_of_getElem? (i := 1) rfl)) (fun _ h9 => h9) rfl dX7_keepsLetters_6 ?_
  refine lv_if_eq (tgt := 35) hx hb dX7_keepsLetters_9 (by decide) (fun c_2 => ?_) (fun c_2 => ?_)
  · skip
    have h_3 : rg (0) (0) a2 := by have ha := ha2; have hb_ := (rg_k (x := 0) (c := 0) (by decide)); simp only [rg, fa_lt, fa_le, fa_eq, (by decide : (0 : Int32).toInt = 0)] at ha hb_ c_2; simp only [rg]; omega
    refine lv_aload_n hx hb dX7_keepsLetters_35 rfl (lv_at hl 1 rfl) ?_
    refine va_get (D := (dC, dI)) (ci := 7) (v := .ref h3) (C := RX7) (T := TX7) (N := 14) hx hb hts hinX7 hown hK hP 0 rfl rfl 2 (by decide) (hts (.fieldLink RX7 18 "MayRings$Ways" "must" "[I") (List.mem_of_getElem? (i := 2) rfl)) (fun _ h9 => h9) rfl dX7_keepsLetters_36 ?_
    refine lv_iload_n hx hb dX7_keepsLetters_39 rfl (lv_at hl 4 rfl) ?_
    refine va_iald hx hb hK hP 1 1 rfl rfl (rg_in (n := 9) (rg_mono hp2 (by decide) (by decide))) dX7_keepsLetters_40 ?_
    refine lv_topi (fun x_4 ex_4 => ?_)
    have hx_4 : rg (0) (511) x_4 := by rw [ex_4]; exact rg_mono (hg2 _) (by decide) (by decide)
    refine lv_iload_n hx hb dX7_keepsLetters_41 rfl (lv_at hl 2 rfl) ?_
    refine lv_iand hx hb dX7_keepsLetters_42 ?_
    refine lv_topi (fun x_5 ex_5 => ?_)
    have hx_5 : rg (0) (511) x_5 := by rw [ex_5]; exact rg_mono (rg_andl (b := 511) (rg_mono hx_4 (by decide) (by decide))) (by decide) (by decide)
    have kx_5_0 : rg 1 2147483647 x_5 → rg 1 (511) x_4 := fun hq => rg_andP hx_4 (ex_5 ▸ hq)
    have kx_5_1 : rg 1 2147483647 x_5 → rg 1 (511) p0 := fun hq => rg_andP' hp0 (ex_5 ▸ hq)
    refine lv_iload hx hb dX7_keepsLetters_43 (lv_at hl 0 rfl) ?_
    refine lv_iconst (v := (-1)) hx hb dX7_keepsLetters_45 (by decide) ?_
    refine lv_ixor hx hb dX7_keepsLetters_46 ?_
    refine lv_topi (fun x_6 ex_6 => ?_)
    refine lv_iand hx hb dX7_keepsLetters_47 ?_
    refine lv_topi (fun x_7 ex_7 => ?_)
    have hx_7 : rg (0) (511) x_7 := by rw [ex_7]; exact rg_mono (rg_andl (b := 511) (rg_mono hx_5 (by decide) (by decide))) (by decide) (by decide)
    have kx_7_0 : rg 1 2147483647 x_7 → rg 1 (511) x_5 := fun hq => rg_andP hx_5 (ex_7 ▸ hq)
    refine lv_if_ne (tgt := 55) hx hb dX7_keepsLetters_48 (by decide) (fun c_8 => ?_) (fun c_8 => ?_)
    · skip
      have h_9 : rg (1) (511) x_7 := by have ha := hx_7; have hb_ := (rg_k (x := 0) (c := 0) (by decide)); simp only [rg, fa_lt, fa_le, fa_eq, (by decide : (0 : Int32).toInt = 0)] at ha hb_ c_8; simp only [rg]; omega
      have h_10 : rg (1) (511) x_5 := rg_meet hx_5 (kx_7_0 (rg_mono h_9 (by decide) (by decide))) (by decide) (by decide)
      have h_11 : rg (1) (511) x_4 := rg_meet hx_4 (kx_5_0 (rg_mono h_10 (by decide) (by decide))) (by decide) (by decide)
      have h_12 : rg (1) (511) p0 := rg_meet hp0 (kx_5_1 (rg_mono h_10 (by decide) (by decide))) (by decide) (by decide)
      refine lv_iconst (v := 0) hx hb dX7_keepsLetters_55 (by decide) ?_
      have hP9 := hP.sub (ws' := [(h0, .inr (7, [.ref h1, .ref h2, .ref h3, .ref h4, .ref h5, .ref h6, .int a0, .int a1, .int a2, .int a3, .int a4, .int a5, .int a6, .int a7])), (h3, .inl (cI, 9, .inl g2))]) [0, 1] rfl
      have hD9 := hD.sub (ws' := [(h0, .inr (7, [.ref h1, .ref h2, .ref h3, .ref h4, .ref h5, .ref h6, .int a0, .int a1, .int a2, .int a3, .int a4, .int a5, .int a6, .int a7])), (h3, .inl (cI, 9, .inl g2))]) [0, 1] (by decide) rfl
      exact W.zret (v := 0) hx hb hr (rfl) (fun t ht hW => ⟨⟨0, (), rfl, (rg_mono (rg_k (x := 0) (c := 0) (by decide)) (by decide) (by decide)), ⟨by rw [ht]; exact hP9, hD9⟩⟩, hS.F ht⟩) hS.2.2 dX7_keepsLetters_56
    · skip
      have h_13 : rg (0) (0) x_7 := by have ha := hx_7; have hb_ := (rg_k (x := 0) (c := 0) (by decide)); simp only [rg, fa_lt, fa_le, fa_eq, (by decide : (0 : Int32).toInt = 0)] at ha hb_ c_8; simp only [rg]; omega
      refine lv_iconst (v := 1) hx hb dX7_keepsLetters_51 (by decide) ?_
      refine lv_goto (tgt := 56) hx hb dX7_keepsLetters_52 (by decide) ?_
      have hP9 := hP.sub (ws' := [(h0, .inr (7, [.ref h1, .ref h2, .ref h3, .ref h4, .ref h5, .ref h6, .int a0, .int a1, .int a2, .int a3, .int a4, .int a5, .int a6, .int a7])), (h3, .inl (cI, 9, .inl g2))]) [0, 1] rfl
      have hD9 := hD.sub (ws' := [(h0, .inr (7, [.ref h1, .ref h2, .ref h3, .ref h4, .ref h5, .ref h6, .int a0, .int a1, .int a2, .int a3, .int a4, .int a5, .int a6, .int a7])), (h3, .inl (cI, 9, .inl g2))]) [0, 1] (by decide) rfl
      exact W.zret (v := 1) hx hb hr (rfl) (fun t ht hW => ⟨⟨1, (), rfl, (rg_mono (rg_k (x := 1) (c := 1) (by decide)) (by decide) (by decide)), ⟨by rw [ht]; exact hP9, hD9⟩⟩, hS.F ht⟩) hS.2.2 dX7_keepsLetters_56
  · skip
    have h_14 : rg (1) (1) a2 := by have ha := ha2; have hb_ := (rg_k (x := 0) (c := 0) (by decide)); simp only [rg, fa_lt, fa_le, fa_eq, (by decide : (0 : Int32).toInt = 0)] at ha hb_ c_2; simp only [rg]; omega
    refine lv_iload_n hx hb dX7_keepsLetters_12 rfl (lv_at hl 2 rfl) ?_
    refine lv_iconst (v := 1) hx hb dX7_keepsLetters_13 (by decide) ?_
    refine lv_iload_n hx hb dX7_keepsLetters_14 rfl (lv_at hl 4 rfl) ?_
    refine lv_ishl hx hb dX7_keepsLetters_15 ?_
    refine lv_topi (fun x_15 ex_15 => ?_)
    have hx_15 : rg (1) (256) x_15 := by rw [ex_15]; exact rg_mono (rg_shl1 8 (rg_mono hp2 (by decide) (by decide)) (by decide)) (by decide) (by decide)
    refine lv_ior hx hb dX7_keepsLetters_16 ?_
    refine lv_topi (fun x_16 ex_16 => ?_)
    have hx_16 : rg (0) (511) x_16 := by rw [ex_16]; exact rg_mono (rg_or 9 (rg_mono hp0 (by decide) (by decide)) (rg_mono hx_15 (by decide) (by decide)) (by decide)) (by decide) (by decide)
    refine lv_aload_n hx hb dX7_keepsLetters_17 rfl (lv_at hl 1 rfl) ?_
    refine va_get (D := (dC, dI)) (ci := 7) (v := .int a0) (C := RX7) (T := TX7) (N := 14) hx hb hts hinX7 hown hK hP 0 rfl rfl 6 (by decide) (hts (.fieldLink RX7 30 "MayRings$Ways" "houses" "I") (List.mem_of_getElem? (i := 3) rfl)) (fun _ h9 => h9) rfl dX7_keepsLetters_18 ?_
    refine lv_icmp_ne (tgt := 35) hx hb dX7_keepsLetters_21 (by decide) (fun c_17 => ?_) (fun c_17 => ?_)
    · skip
      refine lv_aload_n hx hb dX7_keepsLetters_35 rfl (lv_at hl 1 rfl) ?_
      refine va_get (D := (dC, dI)) (ci := 7) (v := .ref h3) (C := RX7) (T := TX7) (N := 14) hx hb hts hinX7 hown hK hP 0 rfl rfl 2 (by decide) (hts (.fieldLink RX7 18 "MayRings$Ways" "must" "[I") (List.mem_of_getElem? (i := 2) rfl)) (fun _ h9 => h9) rfl dX7_keepsLetters_36 ?_
      refine lv_iload_n hx hb dX7_keepsLetters_39 rfl (lv_at hl 4 rfl) ?_
      refine va_iald hx hb hK hP 1 1 rfl rfl (rg_in (n := 9) (rg_mono hp2 (by decide) (by decide))) dX7_keepsLetters_40 ?_
      refine lv_topi (fun x_18 ex_18 => ?_)
      have hx_18 : rg (0) (511) x_18 := by rw [ex_18]; exact rg_mono (hg2 _) (by decide) (by decide)
      refine lv_iload_n hx hb dX7_keepsLetters_41 rfl (lv_at hl 2 rfl) ?_
      refine lv_iand hx hb dX7_keepsLetters_42 ?_
      refine lv_topi (fun x_19 ex_19 => ?_)
      have hx_19 : rg (0) (511) x_19 := by rw [ex_19]; exact rg_mono (rg_andl (b := 511) (rg_mono hx_18 (by decide) (by decide))) (by decide) (by decide)
      have kx_19_0 : rg 1 2147483647 x_19 → rg 1 (511) x_18 := fun hq => rg_andP hx_18 (ex_19 ▸ hq)
      have kx_19_1 : rg 1 2147483647 x_19 → rg 1 (511) p0 := fun hq => rg_andP' hp0 (ex_19 ▸ hq)
      refine lv_iload hx hb dX7_keepsLetters_43 (lv_at hl 0 rfl) ?_
      refine lv_iconst (v := (-1)) hx hb dX7_keepsLetters_45 (by decide) ?_
      refine lv_ixor hx hb dX7_keepsLetters_46 ?_
      refine lv_topi (fun x_20 ex_20 => ?_)
      refine lv_iand hx hb dX7_keepsLetters_47 ?_
      refine lv_topi (fun x_21 ex_21 => ?_)
      have hx_21 : rg (0) (511) x_21 := by rw [ex_21]; exact rg_mono (rg_andl (b := 511) (rg_mono hx_19 (by decide) (by decide))) (by decide) (by decide)
      have kx_21_0 : rg 1 2147483647 x_21 → rg 1 (511) x_19 := fun hq => rg_andP hx_19 (ex_21 ▸ hq)
      refine lv_if_ne (tgt := 55) hx hb dX7_keepsLetters_48 (by decide) (fun c_22 => ?_) (fun c_22 => ?_)
      · skip
        have h_23 : rg (1) (511) x_21 := by have ha := hx_21; have hb_ := (rg_k (x := 0) (c := 0) (by decide)); simp only [rg, fa_lt, fa_le, fa_eq, (by decide : (0 : Int32).toInt = 0)] at ha hb_ c_22; simp only [rg]; omega
        have h_24 : rg (1) (511) x_19 := rg_meet hx_19 (kx_21_0 (rg_mono h_23 (by decide) (by decide))) (by decide) (by decide)
        have h_25 : rg (1) (511) x_18 := rg_meet hx_18 (kx_19_0 (rg_mono h_24 (by decide) (by decide))) (by decide) (by decide)
        have h_26 : rg (1) (511) p0 := rg_meet hp0 (kx_19_1 (rg_mono h_24 (by decide) (by decide))) (by decide) (by decide)
        refine lv_iconst (v := 0) hx hb dX7_keepsLetters_55 (by decide) ?_
        have hP9 := hP.sub (ws' := [(h0, .inr (7, [.ref h1, .ref h2, .ref h3, .ref h4, .ref h5, .ref h6, .int a0, .int a1, .int a2, .int a3, .int a4, .int a5, .int a6, .int a7])), (h3, .inl (cI, 9, .inl g2))]) [0, 1] rfl
        have hD9 := hD.sub (ws' := [(h0, .inr (7, [.ref h1, .ref h2, .ref h3, .ref h4, .ref h5, .ref h6, .int a0, .int a1, .int a2, .int a3, .int a4, .int a5, .int a6, .int a7])), (h3, .inl (cI, 9, .inl g2))]) [0, 1] (by decide) rfl
        exact W.zret (v := 0) hx hb hr (rfl) (fun t ht hW => ⟨⟨0, (), rfl, (rg_mono (rg_k (x := 0) (c := 0) (by decide)) (by decide) (by decide)), ⟨by rw [ht]; exact hP9, hD9⟩⟩, hS.F ht⟩) hS.2.2 dX7_keepsLetters_56
      · skip
        have h_27 : rg (0) (0) x_21 := by have ha := hx_21; have hb_ := (rg_k (x := 0) (c := 0) (by decide)); simp only [rg, fa_lt, fa_le, fa_eq, (by decide : (0 : Int32).toInt = 0)] at ha hb_ c_22; simp only [rg]; omega
        refine lv_iconst (v := 1) hx hb dX7_keepsLetters_51 (by decide) ?_
        refine lv_goto (tgt := 56) hx hb dX7_keepsLetters_52 (by decide) ?_
        have hP9 := hP.sub (ws' := [(h0, .inr (7, [.ref h1, .ref h2, .ref h3, .ref h4, .ref h5, .ref h6, .int a0, .int a1, .int a2, .int a3, .int a4, .int a5, .int a6, .int a7])), (h3, .inl (cI, 9, .inl g2))]) [0, 1] rfl
        have hD9 := hD.sub (ws' := [(h0, .inr (7, [.ref h1, .ref h2, .ref h3, .ref h4, .ref h5, .ref h6, .int a0, .int a1, .int a2, .int a3, .int a4, .int a5, .int a6, .int a7])), (h3, .inl (cI, 9, .inl g2))]) [0, 1] (by decide) rfl
        exact W.zret (v := 1) hx hb hr (rfl) (fun t ht hW => ⟨⟨1, (), rfl, (rg_mono (rg_k (x := 1) (c := 1) (by decide)) (by decide) (by decide)), ⟨by rw [ht]; exact hP9, hD9⟩⟩, hS.F ht⟩) hS.2.2 dX7_keepsLetters_56
    · skip
      refine lv_iload hx hb dX7_keepsLetters_24 (lv_at hl 0 rfl) ?_
      refine lv_iconst (v := 1) hx hb dX7_keepsLetters_26 (by decide) ?_
      refine lv_aload_n hx hb dX7_keepsLetters_27 rfl (lv_at hl 1 rfl) ?_
      refine va_get (D := (dC, dI)) (ci := 7) (v := .int a7) (C := RX7) (T := TX7) (N := 14) hx hb hts hinX7 hown hK hP 0 rfl rfl 13 (by decide) (hts (.fieldLink RX7 53 "MayRings$Ways" "start" "I") (List.mem_of_getElem? (i := 4) rfl)) (fun _ h9 => h9) rfl dX7_keepsLetters_28 ?_
      refine lv_ishl hx hb dX7_keepsLetters_31 ?_
      refine lv_topi (fun x_28 ex_28 => ?_)
      have hx_28 : rg (1) (256) x_28 := by rw [ex_28]; exact rg_mono (rg_shl1 8 (rg_mono ha7 (by decide) (by decide)) (by decide)) (by decide) (by decide)
      refine lv_ior hx hb dX7_keepsLetters_32 ?_
      refine lv_topi (fun x_29 ex_29 => ?_)
      have hx_29 : rg (0) (511) x_29 := by rw [ex_29]; exact rg_mono (rg_or 9 (rg_mono hx_1 (by decide) (by decide)) (rg_mono hx_28 (by decide) (by decide)) (by decide)) (by decide) (by decide)
      refine lv_istore (lv' := [(4, .int x_29), (0, .ref h0), (1, .int p0), (2, .int p1), (3, .int p2)]) hx hb dX7_keepsLetters_33 hl (by decide) rfl (fun ls hl => ?_)
      refine lv_aload_n hx hb dX7_keepsLetters_35 rfl (lv_at hl 1 rfl) ?_
      refine va_get (D := (dC, dI)) (ci := 7) (v := .ref h3) (C := RX7) (T := TX7) (N := 14) hx hb hts hinX7 hown hK hP 0 rfl rfl 2 (by decide) (hts (.fieldLink RX7 18 "MayRings$Ways" "must" "[I") (List.mem_of_getElem? (i := 2) rfl)) (fun _ h9 => h9) rfl dX7_keepsLetters_36 ?_
      refine lv_iload_n hx hb dX7_keepsLetters_39 rfl (lv_at hl 4 rfl) ?_
      refine va_iald hx hb hK hP 1 1 rfl rfl (rg_in (n := 9) (rg_mono hp2 (by decide) (by decide))) dX7_keepsLetters_40 ?_
      refine lv_topi (fun x_30 ex_30 => ?_)
      have hx_30 : rg (0) (511) x_30 := by rw [ex_30]; exact rg_mono (hg2 _) (by decide) (by decide)
      refine lv_iload_n hx hb dX7_keepsLetters_41 rfl (lv_at hl 2 rfl) ?_
      refine lv_iand hx hb dX7_keepsLetters_42 ?_
      refine lv_topi (fun x_31 ex_31 => ?_)
      have hx_31 : rg (0) (511) x_31 := by rw [ex_31]; exact rg_mono (rg_andl (b := 511) (rg_mono hx_30 (by decide) (by decide))) (by decide) (by decide)
      have kx_31_0 : rg 1 2147483647 x_31 → rg 1 (511) x_30 := fun hq => rg_andP hx_30 (ex_31 ▸ hq)
      have kx_31_1 : rg 1 2147483647 x_31 → rg 1 (511) p0 := fun hq => rg_andP' hp0 (ex_31 ▸ hq)
      refine lv_iload hx hb dX7_keepsLetters_43 (lv_at hl 0 rfl) ?_
      refine lv_iconst (v := (-1)) hx hb dX7_keepsLetters_45 (by decide) ?_
      refine lv_ixor hx hb dX7_keepsLetters_46 ?_
      refine lv_topi (fun x_32 ex_32 => ?_)
      refine lv_iand hx hb dX7_keepsLetters_47 ?_
      refine lv_topi (fun x_33 ex_33 => ?_)
      have hx_33 : rg (0) (511) x_33 := by rw [ex_33]; exact rg_mono (rg_andl (b := 511) (rg_mono hx_31 (by decide) (by decide))) (by decide) (by decide)
      have kx_33_0 : rg 1 2147483647 x_33 → rg 1 (511) x_31 := fun hq => rg_andP hx_31 (ex_33 ▸ hq)
      refine lv_if_ne (tgt := 55) hx hb dX7_keepsLetters_48 (by decide) (fun c_34 => ?_) (fun c_34 => ?_)
      · skip
        have h_35 : rg (1) (511) x_33 := by have ha := hx_33; have hb_ := (rg_k (x := 0) (c := 0) (by decide)); simp only [rg, fa_lt, fa_le, fa_eq, (by decide : (0 : Int32).toInt = 0)] at ha hb_ c_34; simp only [rg]; omega
        have h_36 : rg (1) (511) x_31 := rg_meet hx_31 (kx_33_0 (rg_mono h_35 (by decide) (by decide))) (by decide) (by decide)
        have h_37 : rg (1) (511) x_30 := rg_meet hx_30 (kx_31_0 (rg_mono h_36 (by decide) (by decide))) (by decide) (by decide)
        have h_38 : rg (1) (511) p0 := rg_meet hp0 (kx_31_1 (rg_mono h_36 (by decide) (by decide))) (by decide) (by decide)
        refine lv_iconst (v := 0) hx hb dX7_keepsLetters_55 (by decide) ?_
        have hP9 := hP.sub (ws' := [(h0, .inr (7, [.ref h1, .ref h2, .ref h3, .ref h4, .ref h5, .ref h6, .int a0, .int a1, .int a2, .int a3, .int a4, .int a5, .int a6, .int a7])), (h3, .inl (cI, 9, .inl g2))]) [0, 1] rfl
        have hD9 := hD.sub (ws' := [(h0, .inr (7, [.ref h1, .ref h2, .ref h3, .ref h4, .ref h5, .ref h6, .int a0, .int a1, .int a2, .int a3, .int a4, .int a5, .int a6, .int a7])), (h3, .inl (cI, 9, .inl g2))]) [0, 1] (by decide) rfl
        exact W.zret (v := 0) hx hb hr (rfl) (fun t ht hW => ⟨⟨0, (), rfl, (rg_mono (rg_k (x := 0) (c := 0) (by decide)) (by decide) (by decide)), ⟨by rw [ht]; exact hP9, hD9⟩⟩, hS.F ht⟩) hS.2.2 dX7_keepsLetters_56
      · skip
        have h_39 : rg (0) (0) x_33 := by have ha := hx_33; have hb_ := (rg_k (x := 0) (c := 0) (by decide)); simp only [rg, fa_lt, fa_le, fa_eq, (by decide : (0 : Int32).toInt = 0)] at ha hb_ c_34; simp only [rg]; omega
        refine lv_iconst (v := 1) hx hb dX7_keepsLetters_51 (by decide) ?_
        refine lv_goto (tgt := 56) hx hb dX7_keepsLetters_52 (by decide) ?_
        have hP9 := hP.sub (ws' := [(h0, .inr (7, [.ref h1, .ref h2, .ref h3, .ref h4, .ref h5, .ref h6, .int a0, .int a1, .int a2, .int a3, .int a4, .int a5, .int a6, .int a7])), (h3, .inl (cI, 9, .inl g2))]) [0, 1] rfl
        have hD9 := hD.sub (ws' := [(h0, .inr (7, [.ref h1, .ref h2, .ref h3, .ref h4, .ref h5, .ref h6, .int a0, .int a1, .int a2, .int a3, .int a4, .int a5, .int a6, .int a7])), (h3, .inl (cI, 9, .inl g2))]) [0, 1] (by decide) rfl
        exact W.zret (v := 1) hx hb hr (rfl) (fun t ht hW => ⟨⟨1, (), rfl, (rg_mono (rg_k (x := 1) (c := 1) (by decide)) (by decide) (by decide)), ⟨by rw [ht]; exact hP9, hD9⟩⟩, hS.F ht⟩) hS.2.2 dX7_keepsLetters_56
def v_s_J6_bitCount_0f7a4_b9 : List Cond := Cond.code yJ6_bitCount_0f7a4 cJ6_bitCount_0f7a4 1 (some .int) :: ([Cond.constant RJ6 265 (1431655765), Cond.constant RJ6 266 (858993459), Cond.constant RJ6 267 (252645135)] ++ ([]))
theorem k_s_J6_bitCount_0f7a4_b9 : GoodIn lw_tbl v_s_J6_bitCount_0f7a4_b9 := gd_c (List.mem_of_getElem? (i := 879) (by decide +kernel)) rfl (goodIn_app (gd_c (List.mem_of_getElem? (i := 880) (by decide +kernel)) rfl (gd_c (List.mem_of_getElem? (i := 881) (by decide +kernel)) rfl (gd_c (List.mem_of_getElem? (i := 882) (by decide +kernel)) rfl (gd_nil)))) (gd_nil))
set_option maxHeartbeats 2000000 in
set_option maxRecDepth 100000 in
theorem c_s_J6_bitCount_0f7a4_b9 (l : Launch) (dC : Nat → ClassId) (dI : Nat → Nat → Nat) (cB cI cJ cZ cP : ClassId) (p0 : Int32) (hp0 : rg (0) (511) p0) (sz : Nat) : Met l yJ6_bitCount_0f7a4 v_s_J6_bitCount_0f7a4_b9 ({ frames := 0, cells := 0, slots := 0, locals := 0 }) (va_Pc [.int p0] (fun U => U.heap.size = sz ∧ va_P (dC, dI) vwCl [] U.heap ∧ va_K (dC, dI) vwCl (ty5 cB cI cJ cZ cP) U ∧ va_D (fun _ => True) [])) (va_Qi (fun (r : Int32) (u9 : Unit) => rg (0) (9) r ∧ (rg (0) (8) r → rg (0) (510) p0)) (fun u9 t => va_P (dC, dI) vwCl [] t.heap ∧ va_D (va_A [] sz) []) (va_A [] sz)) 0 0 (va_A [] sz) := by
  refine Met.ofW (cc := cJ6_bitCount_0f7a4) (maxL := 1) (ret := (some .int)) (by decide) rfl ?_
  intro p e s m args below meth c s₁ B hml hv
  obtain ⟨rfl, hsz, hP, hK, hD0⟩ := hv
  have hx := B.exec
  have hb := B.bytes
  have hr := B.returns
  have hts := atoms_spec (ws := v_s_J6_bitCount_0f7a4_b9) B.pre
  have hown : s.vm.findClass RJ6 = some m.cls := findClass_of_methodNamed B.named
  have hlocks := B.notSynchronized
  subst hsz
  have hD := hD0.self (sz := s.heap.size)
  generalize hAe : va_A [] s.heap.size = A at hD ⊢
  have hA : ∀ q : Nat, s.heap.size ≤ q → A q := fun q h => by rw [← hAe]; exact Or.inr h
  have hP : va_P (dC, dI) vwCl [] s.heap := hP
  have hl := lv_entry ([.int p0]) (n := 1) (Nat.le_of_ble_eq_true rfl)
  rw [lg_entry_eq]
  generalize (lg_sl ([.int p0]) ++ List.replicate (1 - (lg_sl ([.int p0])).length) Slot.unset).toArray = ls at hl ⊢
  have hl : lv_has ls 1 [(0, .int p0)] := hl
  refine W_gen (A := A) hP (fun H locs hP hS => ?_)
  refine lv_iload_n hx hb dJ6_bitCount_0f7a4_0 rfl (lv_at hl 0 rfl) ?_
  refine lv_iload_n hx hb dJ6_bitCount_0f7a4_1 rfl (lv_at hl 0 rfl) ?_
  refine lv_iconst (v := 1) hx hb dJ6_bitCount_0f7a4_2 (by decide) ?_
  refine lv_iushr hx hb dJ6_bitCount_0f7a4_3 rfl ?_
  refine lv_topi (fun x_1 ex_1 => ?_)
  have hx_1 : rg (0) (2147483647) x_1 := by rw [ex_1]; exact rg_mono (rg_ushr 1 (by decide) (by decide)) (by decide) (by decide)
  refine lv_ldcw (v := 1431655765) hx hb hown (hts (.constant RJ6 265 (1431655765)) (List.mem_of_getElem? (i := 1) rfl)) dJ6_bitCount_0f7a4_4 ?_
  refine lv_iand hx hb dJ6_bitCount_0f7a4_7 ?_
  refine lv_topi (fun x_2 ex_2 => ?_)
  have hx_2 : rg (0) (1431655765) x_2 := by rw [ex_2]; exact rg_mono (rg_andr (b := 1431655765) (rg_mono (rg_k (x := 1431655765) (c := 1431655765) (by decide)) (by decide) (by decide))) (by decide) (by decide)
  have kx_2_0 : rg 1 2147483647 x_2 → rg 1 (2147483647) x_1 := fun hq => rg_andP hx_1 (ex_2 ▸ hq)
  refine lv_isub hx hb dJ6_bitCount_0f7a4_8 ?_
  refine lv_topi (fun x_3 ex_3 => ?_)
  have hx_3 : rg (-1431655765) (511) x_3 := by rw [ex_3]; exact rg_mono (rg_sub hp0 hx_2 (by decide) (by decide)) (by decide) (by decide)
  have qx_3 : x_3.toInt = p0.toInt - x_2.toInt := by rw [ex_3]; exact rg_subQ hp0 hx_2 (by decide) (by decide)
  refine lv_istore_n (lv' := [(0, .int x_3)]) hx hb dJ6_bitCount_0f7a4_9 rfl hl (by decide) rfl (fun ls hl => ?_)
  refine lv_iload_n hx hb dJ6_bitCount_0f7a4_10 rfl (lv_at hl 0 rfl) ?_
  refine lv_ldcw (v := 858993459) hx hb hown (hts (.constant RJ6 266 (858993459)) (List.mem_of_getElem? (i := 2) rfl)) dJ6_bitCount_0f7a4_11 ?_
  refine lv_iand hx hb dJ6_bitCount_0f7a4_14 ?_
  refine lv_topi (fun x_4 ex_4 => ?_)
  have hx_4 : rg (0) (858993459) x_4 := by rw [ex_4]; exact rg_mono (rg_andr (b := 858993459) (rg_mono (rg_k (x := 858993459) (c := 858993459) (by decide)) (by decide) (by decide))) (by decide) (by decide)
  refine lv_iload_n hx hb dJ6_bitCount_0f7a4_15 rfl (lv_at hl 0 rfl) ?_
  refine lv_iconst (v := 2) hx hb dJ6_bitCount_0f7a4_16 (by decide) ?_
  refine lv_iushr hx hb dJ6_bitCount_0f7a4_17 rfl ?_
  refine lv_topi (fun x_5 ex_5 => ?_)
  have hx_5 : rg (0) (1073741823) x_5 := by rw [ex_5]; exact rg_mono (rg_ushr 2 (by decide) (by decide)) (by decide) (by decide)
  refine lv_ldcw (v := 858993459) hx hb hown (hts (.constant RJ6 266 (858993459)) (List.mem_of_getElem? (i := 2) rfl)) dJ6_bitCount_0f7a4_18 ?_
  refine lv_iand hx hb dJ6_bitCount_0f7a4_21 ?_
  refine lv_topi (fun x_6 ex_6 => ?_)
  have hx_6 : rg (0) (858993459) x_6 := by rw [ex_6]; exact rg_mono (rg_andr (b := 858993459) (rg_mono (rg_k (x := 858993459) (c := 858993459) (by decide)) (by decide) (by decide))) (by decide) (by decide)
  have kx_6_0 : rg 1 2147483647 x_6 → rg 1 (1073741823) x_5 := fun hq => rg_andP hx_5 (ex_6 ▸ hq)
  refine lv_iadd hx hb dJ6_bitCount_0f7a4_22 ?_
  refine lv_topi (fun x_7 ex_7 => ?_)
  have hx_7 : rg (0) (1717986918) x_7 := by rw [ex_7]; exact rg_mono (rg_add hx_4 hx_6 (by decide) (by decide)) (by decide) (by decide)
  have qx_7 : x_7.toInt = x_4.toInt + x_6.toInt := by rw [ex_7]; exact rg_addQ hx_4 hx_6 (by decide) (by decide)
  refine lv_istore_n (lv' := [(0, .int x_7)]) hx hb dJ6_bitCount_0f7a4_23 rfl hl (by decide) rfl (fun ls hl => ?_)
  refine lv_iload_n hx hb dJ6_bitCount_0f7a4_24 rfl (lv_at hl 0 rfl) ?_
  refine lv_iload_n hx hb dJ6_bitCount_0f7a4_25 rfl (lv_at hl 0 rfl) ?_
  refine lv_iconst (v := 4) hx hb dJ6_bitCount_0f7a4_26 (by decide) ?_
  refine lv_iushr hx hb dJ6_bitCount_0f7a4_27 rfl ?_
  refine lv_topi (fun x_8 ex_8 => ?_)
  have hx_8 : rg (0) (268435455) x_8 := by rw [ex_8]; exact rg_mono (rg_ushr 4 (by decide) (by decide)) (by decide) (by decide)
  refine lv_iadd hx hb dJ6_bitCount_0f7a4_28 ?_
  refine lv_topi (fun x_9 ex_9 => ?_)
  have hx_9 : rg (0) (1986422373) x_9 := by rw [ex_9]; exact rg_mono (rg_add hx_7 hx_8 (by decide) (by decide)) (by decide) (by decide)
  have qx_9 : x_9.toInt = x_7.toInt + x_8.toInt := by rw [ex_9]; exact rg_addQ hx_7 hx_8 (by decide) (by decide)
  refine lv_ldcw (v := 252645135) hx hb hown (hts (.constant RJ6 267 (252645135)) (List.mem_of_getElem? (i := 3) rfl)) dJ6_bitCount_0f7a4_29 ?_
  refine lv_iand hx hb dJ6_bitCount_0f7a4_32 ?_
  refine lv_topi (fun x_10 ex_10 => ?_)
  have hx_10 : rg (0) (252645135) x_10 := by rw [ex_10]; exact rg_mono (rg_andr (b := 252645135) (rg_mono (rg_k (x := 252645135) (c := 252645135) (by decide)) (by decide) (by decide))) (by decide) (by decide)
  have kx_10_0 : rg 1 2147483647 x_10 → rg 1 (1986422373) x_9 := fun hq => rg_andP hx_9 (ex_10 ▸ hq)
  refine lv_istore_n (lv' := [(0, .int x_10)]) hx hb dJ6_bitCount_0f7a4_33 rfl hl (by decide) rfl (fun ls hl => ?_)
  refine lv_iload_n hx hb dJ6_bitCount_0f7a4_34 rfl (lv_at hl 0 rfl) ?_
  refine lv_iload_n hx hb dJ6_bitCount_0f7a4_35 rfl (lv_at hl 0 rfl) ?_
  refine lv_bipush (v := 8) hx hb dJ6_bitCount_0f7a4_36 (by decide) ?_
  refine lv_iushr hx hb dJ6_bitCount_0f7a4_38 rfl ?_
  refine lv_topi (fun x_11 ex_11 => ?_)
  have hx_11 : rg (0) (16777215) x_11 := by rw [ex_11]; exact rg_mono (rg_ushr 8 (by decide) (by decide)) (by decide) (by decide)
  refine lv_iadd hx hb dJ6_bitCount_0f7a4_39 ?_
  refine lv_topi (fun x_12 ex_12 => ?_)
  have hx_12 : rg (0) (269422350) x_12 := by rw [ex_12]; exact rg_mono (rg_add hx_10 hx_11 (by decide) (by decide)) (by decide) (by decide)
  have qx_12 : x_12.toInt = x_10.toInt + x_11.toInt := by rw [ex_12]; exact rg_addQ hx_10 hx_11 (by decide) (by decide)
  refine lv_istore_n (lv' := [(0, .int x_12)]) hx hb dJ6_bitCount_0f7a4_40 rfl hl (by decide) rfl (fun ls hl => ?_)
  refine lv_iload_n hx hb dJ6_bitCount_0f7a4_41 rfl (lv_at hl 0 rfl) ?_
  refine lv_iload_n hx hb dJ6_bitCount_0f7a4_42 rfl (lv_at hl 0 rfl) ?_
  refine lv_bipush (v := 16) hx hb dJ6_bitCount_0f7a4_43 (by decide) ?_
  refine lv_iushr hx hb dJ6_bitCount_0f7a4_45 rfl ?_
  refine lv_topi (fun x_13 ex_13 => ?_)
  have hx_13 : rg (0) (65535) x_13 := by rw [ex_13]; exact rg_mono (rg_ushr 16 (by decide) (by decide)) (by decide) (by decide)
  refine lv_iadd hx hb dJ6_bitCount_0f7a4_46 ?_
  refine lv_topi (fun x_14 ex_14 => ?_)
  have hx_14 : rg (0) (269487885) x_14 := by rw [ex_14]; exact rg_mono (rg_add hx_12 hx_13 (by decide) (by decide)) (by decide) (by decide)
  have qx_14 : x_14.toInt = x_12.toInt + x_13.toInt := by rw [ex_14]; exact rg_addQ hx_12 hx_13 (by decide) (by decide)
  refine lv_istore_n (lv' := [(0, .int x_14)]) hx hb dJ6_bitCount_0f7a4_47 rfl hl (by decide) rfl (fun ls hl => ?_)
  refine lv_iload_n hx hb dJ6_bitCount_0f7a4_48 rfl (lv_at hl 0 rfl) ?_
  refine lv_bipush (v := 63) hx hb dJ6_bitCount_0f7a4_49 (by decide) ?_
  refine lv_iand hx hb dJ6_bitCount_0f7a4_51 ?_
  refine lv_topi (fun x_15 ex_15 => ?_)
  have hx_15 : rg (0) (63) x_15 := by rw [ex_15]; exact rg_mono (rg_andr (b := 63) (rg_mono (rg_k (x := 63) (c := 63) (by decide)) (by decide) (by decide))) (by decide) (by decide)
  have kx_15_0 : rg 1 2147483647 x_15 → rg 1 (269487885) x_14 := fun hq => rg_andP hx_14 (ex_15 ▸ hq)
  have h_16 : x_15 = bcE p0 := by subst x_1 x_2 x_3 x_4 x_5 x_6 x_7 x_8 x_9 x_10 x_11 x_12 x_13 x_14 x_15; rfl
  have gh_16 := bc_9 hp0
  rw [← h_16] at gh_16
  have hP9 := hP.sub (ws' := []) [] rfl
  have hD9 := hD.sub (ws' := []) [] (by decide) rfl
  exact W.iret (v := x_15) hx hb hr (fun t ht hW => ⟨⟨x_15, (), rfl, ⟨(rg_mono gh_16.1 (by decide) (by decide)), fun hq => rg_mono (gh_16.2 (rg_mono hq (by decide) (by decide))) (by decide) (by decide)⟩, ⟨by rw [ht]; exact hP9, hD9⟩⟩, hS.F ht⟩) hS.2.2 dJ6_bitCount_0f7a4_52
def v_s_X7_openTo : List Cond := Cond.code yX7_openTo cX7_openTo 4 (some .int) :: ([Cond.methodLink RX7 56 yJ6_bitCount_0f7a4, Cond.static yJ6_bitCount_0f7a4, Cond.initialized RJ6, Cond.fieldLink RX7 34 "MayRings$Ways" "size" "I", Cond.fieldLink RX7 9 "MayRings$Ways" "ground" "[I", Cond.fieldLink RX7 15 "MayRings$Ways" "pairs" "[I"] ++ (wsX70 ++ (v_s_J6_bitCount_0f7a4_b9 ++ ([]))))
theorem k_s_X7_openTo : GoodIn lw_tbl v_s_X7_openTo := gd_c (List.mem_of_getElem? (i := 961) (by decide +kernel)) rfl (goodIn_app (gd_c (List.mem_of_getElem? (i := 923) (by decide +kernel)) rfl (gd_c (List.mem_of_getElem? (i := 878) (by decide +kernel)) rfl (gd_c (List.mem_of_getElem? (i := 147) (by decide +kernel)) rfl (gd_c (List.mem_of_getElem? (i := 454) (by decide +kernel)) rfl (gd_c (List.mem_of_getElem? (i := 440) (by decide +kernel)) rfl (gd_c (List.mem_of_getElem? (i := 443) (by decide +kernel)) rfl (gd_nil))))))) (goodIn_app kfX7 (goodIn_app k_s_J6_bitCount_0f7a4_b9 (gd_nil))))
set_option maxHeartbeats 2000000 in
set_option maxRecDepth 100000 in
theorem c_s_X7_openTo (l : Launch) (dC : Nat → ClassId) (dI : Nat → Nat → Nat) (cB cI cJ cZ cP : ClassId) (h0 : Nat) (h1 : Nat) (g0 : Nat → Int32) (hg0 : rgA (0) (511) g0) (h2 : Nat) (g1 : Nat → Int32) (hg1 : rgA (0) (511) g1) (h3 : Nat) (h4 : Nat) (h5 : Nat) (h6 : Nat) (a0 : Int32) (a1 : Int32) (ha1 : rg (0) (9) a1) (a2 : Int32) (a3 : Int32) (a4 : Int32) (a5 : Int32) (a6 : Int32) (a7 : Int32) (p0 : Int32) (hp0 : rg (0) (511) p0) (p1 : Int32) (hp1 : rg (0) (8) p1) (sz : Nat) : Met l yX7_openTo v_s_X7_openTo ({ frames := 1, cells := 0, slots := 0, locals := 20 }) (va_Pc [.ref h0, .int p0, .int p1] (fun U => U.heap.size = sz ∧ va_P (dC, dI) vwCl [(h0, .inr (7, [.ref h1, .ref h2, .ref h3, .ref h4, .ref h5, .ref h6, .int a0, .int a1, .int a2, .int a3, .int a4, .int a5, .int a6, .int a7])), (h1, .inl (cI, 9, .inl g0)), (h2, .inl (cI, 9, .inl g1))] U.heap ∧ va_K (dC, dI) vwCl (ty5 cB cI cJ cZ cP) U ∧ va_D (fun _ => True) [(h0, .inr (7, [.ref h1, .ref h2, .ref h3, .ref h4, .ref h5, .ref h6, .int a0, .int a1, .int a2, .int a3, .int a4, .int a5, .int a6, .int a7])), (h1, .inl (cI, 9, .inl g0)), (h2, .inl (cI, 9, .inl g1))])) (va_Qi (fun (r : Int32) (u9 : Unit) => rg (0) (511) r ∧ (rg (1) (511) r → rg (0) (510) p0)) (fun u9 t => va_P (dC, dI) vwCl [(h0, .inr (7, [.ref h1, .ref h2, .ref h3, .ref h4, .ref h5, .ref h6, .int a0, .int a1, .int a2, .int a3, .int a4, .int a5, .int a6, .int a7])), (h1, .inl (cI, 9, .inl g0)), (h2, .inl (cI, 9, .inl g1))] t.heap ∧ va_D (va_A [(h0, .inr (7, [.ref h1, .ref h2, .ref h3, .ref h4, .ref h5, .ref h6, .int a0, .int a1, .int a2, .int a3, .int a4, .int a5, .int a6, .int a7])), (h1, .inl (cI, 9, .inl g0)), (h2, .inl (cI, 9, .inl g1))] sz) [(h0, .inr (7, [.ref h1, .ref h2, .ref h3, .ref h4, .ref h5, .ref h6, .int a0, .int a1, .int a2, .int a3, .int a4, .int a5, .int a6, .int a7])), (h1, .inl (cI, 9, .inl g0)), (h2, .inl (cI, 9, .inl g1))]) (va_A [(h0, .inr (7, [.ref h1, .ref h2, .ref h3, .ref h4, .ref h5, .ref h6, .int a0, .int a1, .int a2, .int a3, .int a4, .int a5, .int a6, .int a7])), (h1, .inl (cI, 9, .inl g0)), (h2, .inl (cI, 9, .inl g1))] sz)) 0 0 (va_A [(h0, .inr (7, [.ref h1, .ref h2, .ref h3, .ref h4, .ref h5, .ref h6, .int a0, .int a1, .int a2, .int a3, .int a4, .int a5, .int a6, .int a7])), (h1, .inl (cI, 9, .inl g0)), (h2, .inl (cI, 9, .inl g1))] sz) := by
  refine Met.ofW (cc := cX7_openTo) (maxL := 4) (ret := (some .int)) (by decide) rfl ?_
  intro p e s m args below meth c s₁ B hml hv
  obtain ⟨rfl, hsz, hP, hK, hD0⟩ := hv
  have hx := B.exec
  have hb := B.bytes
  have hr := B.returns
  have hts := atoms_spec (ws := v_s_X7_openTo) B.pre
  have hown : s.vm.findClass RX7 = some m.cls := findClass_of_methodNamed B.named
  have hlocks := B.notSynchronized
  have hinX7 : ∀ w ∈ wsX70, w ∈ v_s_X7_openTo := fun _ h => List.mem_cons_of_mem _ (List.mem_append_right _ (List.mem_append_left _ h))
  subst hsz
  have hD := hD0.self (sz := s.heap.size)
  generalize hAe : va_A [(h0, .inr (7, [.ref h1, .ref h2, .ref h3, .ref h4, .ref h5, .ref h6, .int a0, .int a1, .int a2, .int a3, .int a4, .int a5, .int a6, .int a7])), (h1, .inl (cI, 9, .inl g0)), (h2, .inl (cI, 9, .inl g1))] s.heap.size = A at hD ⊢
  have hA : ∀ q : Nat, s.heap.size ≤ q → A q := fun q h => by rw [← hAe]; exact Or.inr h
  have hP : va_P (dC, dI) vwCl [(h0, .inr (7, [.ref h1, .ref h2, .ref h3, .ref h4, .ref h5, .ref h6, .int a0, .int a1, .int a2, .int a3, .int a4, .int a5, .int a6, .int a7])), (h1, .inl (cI, 9, .inl g0)), (h2, .inl (cI, 9, .inl g1))] s.heap := hP
  have hl := lv_entry ([.ref h0, .int p0, .int p1]) (n := 4) (Nat.le_of_ble_eq_true rfl)
  rw [lg_entry_eq]
  generalize (lg_sl ([.ref h0, .int p0, .int p1]) ++ List.replicate (4 - (lg_sl ([.ref h0, .int p0, .int p1])).length) Slot.unset).toArray = ls at hl ⊢
  have hl : lv_has ls 4 [(0, .ref h0), (1, .int p0), (2, .int p1)] := hl
  refine W_gen (A := A) hP (fun H locs hP hS => ?_)
  refine lv_iload_n hx hb dX7_openTo_0 rfl (lv_at hl 1 rfl) ?_
  have hPc := hP.sub (ws' := []) [] rfl
  have hDc := hD.sub (ws' := []) [] (by decide) rfl
  have hFc := va_free (wc := []) hD hS hA [] rfl
  refine va_calli (va_runS (As := [.int p0]) (rest := []) ⟨hx, hb, hml, hown, hts⟩ (c_s_J6_bitCount_0f7a4_b9 l dC dI cB cI cJ cZ cP p0 (rg_mono hp0 (by decide) (by decide)) H.size) (va_cwS 1 hts (gd_S (List.mem_of_getElem? (i := 1) rfl) (List.mem_of_getElem? (i := 2) rfl) (List.mem_of_getElem? (i := 3) rfl) (gd_mono k_s_J6_bitCount_0f7a4_b9 (fun _ h => List.mem_cons_of_mem _ (List.mem_append_right _ (List.mem_append_right _ (List.mem_append_left _ h)))))) rfl rfl rfl (by decide +kernel) ⟨Nat.le_of_ble_eq_true rfl, Nat.le_of_ble_eq_true rfl⟩) ⟨fun a U g mk q => by obtain ⟨q0, q1, qP, qK, qD⟩ := q; exact ⟨q0, q1, qP, va_K.moved (u := U) (U := U.calling g mk a) (Vm.Alike.refl U.vm) qK, qD⟩, fun U hU hW => ⟨rfl, by rw [hU], by rw [hU]; exact hPc, va_K.moved hW.alike hK, hDc.weaken (fun _ _ _ _ => trivial)⟩⟩ rfl rfl hl.1 rfl (lv_room (Nat.le_of_ble_eq_true rfl)) dX7_openTo_1 ⟨Nat.le_of_ble_eq_true rfl, Nat.le_of_ble_eq_true rfl⟩) hS (fun q _ h => hFc q h) hFc (fun r_1 u t H1 locs ht hvm hw hB hz1 hk1 hS => ?_)
  obtain ⟨hP1, hD1⟩ := hB
  rw [ht] at hP1
  obtain ⟨hP, hD⟩ := va_join (wr := [(h0, .inr (7, [.ref h1, .ref h2, .ref h3, .ref h4, .ref h5, .ref h6, .int a0, .int a1, .int a2, .int a3, .int a4, .int a5, .int a6, .int a7])), (h1, .inl (cI, 9, .inl g0)), (h2, .inl (cI, 9, .inl g1))]) (w1 := []) hP hD [] [0, 1, 2] rfl rfl (by decide) (by decide) hk1 hFc hP1 hD1
  generalize H1 = H at hP hS ⊢
  have hP : va_P (dC, dI) vwCl [(h0, .inr (7, [.ref h1, .ref h2, .ref h3, .ref h4, .ref h5, .ref h6, .int a0, .int a1, .int a2, .int a3, .int a4, .int a5, .int a6, .int a7])), (h1, .inl (cI, 9, .inl g0)), (h2, .inl (cI, 9, .inl g1))] H := hP
  have hD : va_D A [(h0, .inr (7, [.ref h1, .ref h2, .ref h3, .ref h4, .ref h5, .ref h6, .int a0, .int a1, .int a2, .int a3, .int a4, .int a5, .int a6, .int a7])), (h1, .inl (cI, 9, .inl g0)), (h2, .inl (cI, 9, .inl g1))] := hD
  have hr_1 : rg (0) (9) r_1 := hw.1
  have kr_1_0 : rg (0) (8) r_1 → rg (0) (510) p0 := hw.2
  refine lv_istore_n (lv' := [(3, .int r_1), (0, .ref h0), (1, .int p0), (2, .int p1)]) hx hb dX7_openTo_4 rfl hl (by decide) rfl (fun ls hl => ?_)
  refine lv_iload_n hx hb dX7_openTo_5 rfl (lv_at hl 0 rfl) ?_
  refine lv_aload_n hx hb dX7_openTo_6 rfl (lv_at hl 1 rfl) ?_
  refine va_get (D := (dC, dI)) (ci := 7) (v := .int a1) (C := RX7) (T := TX7) (N := 14) hx hb hts hinX7 hown hK hP 0 rfl rfl 7 (by decide) (hts (.fieldLink RX7 34 "MayRings$Ways" "size" "I") (List.mem_of_getElem? (i := 4) rfl)) (fun _ h9 => h9) rfl dX7_openTo_7 ?_
  refine lv_icmp_ge (tgt := 33) hx hb dX7_openTo_10 (by decide) (fun c_2 => ?_) (fun c_2 => ?_)
  · skip
    refine lv_iconst (v := 0) hx hb dX7_openTo_33 (by decide) ?_
    have hP9 := hP.sub (ws' := [(h0, .inr (7, [.ref h1, .ref h2, .ref h3, .ref h4, .ref h5, .ref h6, .int a0, .int a1, .int a2, .int a3, .int a4, .int a5, .int a6, .int a7])), (h1, .inl (cI, 9, .inl g0)), (h2, .inl (cI, 9, .inl g1))]) [0, 1, 2] rfl
    have hD9 := hD.sub (ws' := [(h0, .inr (7, [.ref h1, .ref h2, .ref h3, .ref h4, .ref h5, .ref h6, .int a0, .int a1, .int a2, .int a3, .int a4, .int a5, .int a6, .int a7])), (h1, .inl (cI, 9, .inl g0)), (h2, .inl (cI, 9, .inl g1))]) [0, 1, 2] (by decide) rfl
    exact W.iret (v := 0) hx hb hr (fun t ht hW => ⟨⟨0, (), rfl, ⟨(rg_mono (rg_k (x := 0) (c := 0) (by decide)) (by decide) (by decide)), fun hq => (rg_off (rg_k (x := 0) (c := 0) (by decide)) hq (by decide)).elim⟩, ⟨by rw [ht]; exact hP9, hD9⟩⟩, hS.F ht⟩) hS.2.2 dX7_openTo_34
  · skip
    have h_3 : rg (0) (8) r_1 := by have ha := hr_1; have hb_ := ha1; simp only [rg, fa_lt, fa_le, fa_eq] at ha hb_ c_2; simp only [rg]; omega
    have h_4 : rg (0) (510) p0 := rg_meet hp0 (kr_1_0 (rg_mono h_3 (by decide) (by decide))) (by decide) (by decide)
    have h_5 : rg (1) (9) a1 := by have ha := hr_1; have hb_ := ha1; simp only [rg, fa_lt, fa_le, fa_eq] at ha hb_ c_2; simp only [rg]; omega
    refine lv_aload_n hx hb dX7_openTo_13 rfl (lv_at hl 1 rfl) ?_
    refine va_get (D := (dC, dI)) (ci := 7) (v := .ref h1) (C := RX7) (T := TX7) (N := 14) hx hb hts hinX7 hown hK hP 0 rfl rfl 0 (by decide) (hts (.fieldLink RX7 9 "MayRings$Ways" "ground" "[I") (List.mem_of_getElem? (i := 5) rfl)) (fun _ h9 => h9) rfl dX7_openTo_14 ?_
    refine lv_iload_n hx hb dX7_openTo_17 rfl (lv_at hl 0 rfl) ?_
    refine va_iald hx hb hK hP 1 1 rfl rfl (rg_in (n := 9) (rg_mono h_3 (by decide) (by decide))) dX7_openTo_18 ?_
    refine lv_topi (fun x_6 ex_6 => ?_)
    have hx_6 : rg (0) (511) x_6 := by rw [ex_6]; exact rg_mono (hg0 _) (by decide) (by decide)
    refine lv_aload_n hx hb dX7_openTo_19 rfl (lv_at hl 1 rfl) ?_
    refine va_get (D := (dC, dI)) (ci := 7) (v := .ref h2) (C := RX7) (T := TX7) (N := 14) hx hb hts hinX7 hown hK hP 0 rfl rfl 1 (by decide) (hts (.fieldLink RX7 15 "MayRings$Ways" "pairs" "[I") (List.mem_of_getElem? (i := 6) rfl)) (fun _ h9 => h9) rfl dX7_openTo_20 ?_
    refine lv_iload_n hx hb dX7_openTo_23 rfl (lv_at hl 3 rfl) ?_
    refine va_iald hx hb hK hP 2 1 rfl rfl (rg_in (n := 9) (rg_mono hp1 (by decide) (by decide))) dX7_openTo_24 ?_
    refine lv_topi (fun x_7 ex_7 => ?_)
    have hx_7 : rg (0) (511) x_7 := by rw [ex_7]; exact rg_mono (hg1 _) (by decide) (by decide)
    refine lv_iand hx hb dX7_openTo_25 ?_
    refine lv_topi (fun x_8 ex_8 => ?_)
    have hx_8 : rg (0) (511) x_8 := by rw [ex_8]; exact rg_mono (rg_andl (b := 511) (rg_mono hx_6 (by decide) (by decide))) (by decide) (by decide)
    have kx_8_0 : rg 1 2147483647 x_8 → rg 1 (511) x_6 := fun hq => rg_andP hx_6 (ex_8 ▸ hq)
    have kx_8_1 : rg 1 2147483647 x_8 → rg 1 (511) x_7 := fun hq => rg_andP' hx_7 (ex_8 ▸ hq)
    refine lv_iload_n hx hb dX7_openTo_26 rfl (lv_at hl 2 rfl) ?_
    refine lv_iconst (v := (-1)) hx hb dX7_openTo_27 (by decide) ?_
    refine lv_ixor hx hb dX7_openTo_28 ?_
    refine lv_topi (fun x_9 ex_9 => ?_)
    refine lv_iand hx hb dX7_openTo_29 ?_
    refine lv_topi (fun x_10 ex_10 => ?_)
    have hx_10 : rg (0) (511) x_10 := by rw [ex_10]; exact rg_mono (rg_andl (b := 511) (rg_mono hx_8 (by decide) (by decide))) (by decide) (by decide)
    have kx_10_0 : rg 1 2147483647 x_10 → rg 1 (511) x_8 := fun hq => rg_andP hx_8 (ex_10 ▸ hq)
    refine lv_goto (tgt := 34) hx hb dX7_openTo_30 (by decide) ?_
    have hP9 := hP.sub (ws' := [(h0, .inr (7, [.ref h1, .ref h2, .ref h3, .ref h4, .ref h5, .ref h6, .int a0, .int a1, .int a2, .int a3, .int a4, .int a5, .int a6, .int a7])), (h1, .inl (cI, 9, .inl g0)), (h2, .inl (cI, 9, .inl g1))]) [0, 1, 2] rfl
    have hD9 := hD.sub (ws' := [(h0, .inr (7, [.ref h1, .ref h2, .ref h3, .ref h4, .ref h5, .ref h6, .int a0, .int a1, .int a2, .int a3, .int a4, .int a5, .int a6, .int a7])), (h1, .inl (cI, 9, .inl g0)), (h2, .inl (cI, 9, .inl g1))]) [0, 1, 2] (by decide) rfl
    exact W.iret (v := x_10) hx hb hr (fun t ht hW => ⟨⟨x_10, (), rfl, ⟨(rg_mono hx_10 (by decide) (by decide)), fun _ => (rg_mono h_4 (by decide) (by decide))⟩, ⟨by rw [ht]; exact hP9, hD9⟩⟩, hS.F ht⟩) hS.2.2 dX7_openTo_34
def v_fill : List Cond := Cond.code yJ7_fill_53178 cJ7_fill_53178 4 none :: ([] ++ ([]))
theorem k_fill : GoodIn lw_tbl v_fill := gd_c (List.mem_of_getElem? (i := 209) (by decide +kernel)) rfl (goodIn_app gd_nil gd_nil)
set_option maxHeartbeats 600000 in
set_option maxRecDepth 100000 in
/-- Arrays.fill: all places hold the number -/
theorem c_fill (l : Launch) (dC : Nat → ClassId) (dI : Nat → Nat → Nat) (cB cI cJ cZ cP : ClassId) (h0 : Nat) (k0 : Nat) (g0 : Nat → Int32) (p0 : Int32) (hk : k0 < 2 ^ 31) (sz : Nat) : Met l yJ7_fill_53178 v_fill ({ frames := 0, cells := 0, slots := 0, locals := 0 }) (va_Pc [.ref h0, .int p0] (fun U => U.heap.size = sz ∧ va_P (dC, dI) vwCl [(h0, .inl (cI, k0, .inl g0))] U.heap ∧ va_K (dC, dI) vwCl (ty5 cB cI cJ cZ cP) U ∧ va_D (fun _ => True) [(h0, .inl (cI, k0, .inl g0))])) (va_Qv (fun _ : Unit => True) (fun _ t => ∃ z0 : Nat → Int32, z0 = (fun _ => p0) ∧ va_P (dC, dI) vwCl [(h0, .inl (cI, k0, .inl z0))] t.heap ∧ va_D (va_A [(h0, .inl (cI, k0, .inl g0))] sz) [(h0, .inl (cI, k0, .inl z0))]) (va_A [(h0, .inl (cI, k0, .inl g0))] sz)) 0 0 (va_A [(h0, .inl (cI, k0, .inl g0))] sz) := by
  refine Met.ofW (cc := cJ7_fill_53178) (maxL := 4) (ret := none) (by decide) rfl ?_
  intro p e s m args below meth c s₁ B hml hv
  obtain ⟨rfl, hsz, hP, hK, hD0⟩ := hv
  have hx := B.exec
  have hb := B.bytes
  have hr := B.returns
  have hts := atoms_spec (ws := v_fill) B.pre
  have hlocks := B.notSynchronized
  subst hsz
  have hD := hD0.self (sz := s.heap.size)
  generalize hAe : va_A [(h0, .inl (cI, k0, .inl g0))] s.heap.size = A at hD ⊢
  have hP : va_P (dC, dI) vwCl [(h0, .inl (cI, k0, .inl g0))] s.heap := hP
  have hl := lv_entry ([.ref h0, .int p0]) (n := 4) (Nat.le_of_ble_eq_true rfl)
  rw [lg_entry_eq]
  generalize (lg_sl ([.ref h0, .int p0]) ++ List.replicate (4 - (lg_sl ([.ref h0, .int p0])).length) Slot.unset).toArray = ls at hl ⊢
  have hl : lv_has ls 4 [(0, .ref h0), (1, .int p0)] := hl
  refine W_gen (A := A) hP (fun H locs hP hS => ?_)
  refine lv_iconst (v := 0) hx hb dJ7_fill_53178_0 (by decide) ?_
  refine lv_istore_n (lv' := [(2, .int 0), (0, .ref h0), (1, .int p0)]) hx hb dJ7_fill_53178_1 rfl hl (by decide) rfl (fun ls hl => ?_)
  refine lv_aload_n hx hb dJ7_fill_53178_2 rfl (lv_at hl 1 rfl) ?_
  refine va_alen (v := nI k0) hx hb hK hP 0 1 rfl rfl rfl dJ7_fill_53178_3 ?_
  refine lv_istore_n (lv' := [(3, .int (nI k0)), (2, .int 0), (0, .ref h0), (1, .int p0)]) hx hb dJ7_fill_53178_4 rfl hl (by decide) rfl (fun ls hl => ?_)
  refine W_loop (σ := Nat → Int32) k0 (fun i u H locs ls => va_P (dC, dI) vwCl [(h0, .inl (cI, k0, .inl u))] H ∧ va_D A [(h0, .inl (cI, k0, .inl u))] ∧ va_S A s.heap H locs ∧ lv_has ls 4 [(2, .int (nI i)), (3, .int (nI k0)), (0, .ref h0), (1, .int p0)] ∧ ∀ j, j < i → u j = p0) 5 [] ?_ ?_ 0 (Nat.zero_le _) g0 H locs ls ⟨hP, hD, hS, lv_sub hl [1, 0, 2, 3] rfl, fun j hj => absurd hj (Nat.not_lt_zero j)⟩
  · rintro i hi f H locs ls ⟨hP, hD, hS, hl, hv⟩ ih
    have hl : lv_has ls 4 [(2, .int (nI i)), (3, .int (nI k0)), (0, .ref h0), (1, .int p0)] := hl
    refine lv_iload_n hx hb dJ7_fill_53178_5 rfl (lv_at hl 0 rfl) ?_
    refine lv_iload_n hx hb dJ7_fill_53178_6 rfl (lv_at hl 1 rfl) ?_
    refine lv_icmp_ge (tgt := 20) hx hb dJ7_fill_53178_7 (by decide) (fun cz => absurd ((nI_leI (a := k0) (b := i) (by omega) (by omega)).mp cz) (by omega)) (fun _ => ?_)
    refine lv_aload_n hx hb dJ7_fill_53178_10 rfl (lv_at hl 2 rfl) ?_
    refine lv_iload_n hx hb dJ7_fill_53178_11 rfl (lv_at hl 0 rfl) ?_
    refine lv_iload_n hx hb dJ7_fill_53178_12 rfl (lv_at hl 3 rfl) ?_
    refine va_iast hx hb hK hP hD hS 0 1 rfl rfl (vp_in_nI hi hk) dJ7_fill_53178_13 (fun H locs hP hD hS => ?_)
    refine lv_iinc (v := nI (i + 1)) (lv' := [(2, .int (nI (i + 1))), (3, .int (nI k0)), (0, .ref h0), (1, .int p0)]) hx hb dJ7_fill_53178_14 hl (k := 0) rfl (nI_1 i) (by decide) rfl (fun ls hl => ?_)
    refine lv_goto (tgt := 5) hx hb dJ7_fill_53178_17 (by decide) ?_
    refine ih (upd f (nI i).toNatClampNeg p0) H locs ls ⟨hP, hD, hS, hl, fun j hj => ?_⟩
    rw [nI_clamp (by omega)]
    rcases Nat.lt_succ_iff_lt_or_eq.mp hj with h | h
    · rw [pk_un (by omega)]; exact hv j h
    · subst h; exact pk_us
  · rintro f H locs ls ⟨hP, hD, hS, hl, hv⟩
    have hl : lv_has ls 4 [(2, .int (nI k0)), (3, .int (nI k0)), (0, .ref h0), (1, .int p0)] := hl
    refine lv_iload_n hx hb dJ7_fill_53178_5 rfl (lv_at hl 0 rfl) ?_
    refine lv_iload_n hx hb dJ7_fill_53178_6 rfl (lv_at hl 1 rfl) ?_
    refine lv_icmp_ge (tgt := 20) hx hb dJ7_fill_53178_7 (by decide) (fun _ => ?_) (fun cz => absurd (Int32.le_refl _) cz)
    have hP9 : va_P (dC, dI) vwCl [(h0, .inl (cI, k0, .inl (fun _ => p0)))] H := by
      intro k q hq
      match k, hq with
      | 0, hq =>
        cases hq
        have h1 : H[h0]? = some (vp_cell cI (k0, .inl f)) := hP 0 _ rfl
        show H[h0]? = some (vp_cell cI (k0, .inl (fun _ => p0)))
        rw [h1, ar_ext hv]
      | k + 1, hq => simp at hq
    have hD9 : va_D A [(h0, .inl (cI, k0, .inl (fun _ => p0)))] := by
      refine ⟨fun i j p q hi hj _ => ?_, fun k q hq => ?_⟩
      · have a := (List.getElem?_eq_some_iff.mp hi).1
        have b := (List.getElem?_eq_some_iff.mp hj).1
        simp at a b
        omega
      · match k, hq with
        | 0, hq => cases hq; exact hD.2 0 (h0, .inl (cI, k0, .inl f)) rfl
        | k + 1, hq => simp at hq
    exact W.vret hx hb hr (fun t ht hW => ⟨⟨(), rfl, trivial, ⟨fun _ => p0, rfl, by rw [ht]; exact hP9, hD9⟩⟩, hS.F ht⟩) hS.2.2 dJ7_fill_53178_20
def v_s_X4_clear : List Cond := Cond.code yX4_clear cX4_clear 1 none :: ([Cond.fieldLink RX4 9 "MayRings$Past" "met" "[I", Cond.methodLink RX4 36 yJ7_fill_53178, Cond.static yJ7_fill_53178, Cond.initialized RJ7, Cond.fieldLink RX4 18 "MayRings$Past" "standing" "LMayRings$Order;", Cond.fieldLink RX4 42 "MayRings$Order" "size" "I", Cond.fieldLink RX4 22 "MayRings$Past" "years" "I", Cond.fieldLink RX4 26 "MayRings$Past" "out" "I"] ++ (wsX30 ++ (wsX40 ++ (v_fill ++ ([])))))
theorem k_s_X4_clear : GoodIn lw_tbl v_s_X4_clear := gd_c (List.mem_of_getElem? (i := 784) (by decide +kernel)) rfl (goodIn_app (gd_c (List.mem_of_getElem? (i := 373) (by decide +kernel)) rfl (gd_c (List.mem_of_getElem? (i := 785) (by decide +kernel)) rfl (gd_c (List.mem_of_getElem? (i := 208) (by decide +kernel)) rfl (gd_c (List.mem_of_getElem? (i := 134) (by decide +kernel)) rfl (gd_c (List.mem_of_getElem? (i := 374) (by decide +kernel)) rfl (gd_c (List.mem_of_getElem? (i := 365) (by decide +kernel)) rfl (gd_c (List.mem_of_getElem? (i := 376) (by decide +kernel)) rfl (gd_c (List.mem_of_getElem? (i := 378) (by decide +kernel)) rfl (gd_nil))))))))) (goodIn_app kfX3 (goodIn_app kfX4 (goodIn_app k_fill (gd_nil)))))
set_option maxHeartbeats 2000000 in
set_option maxRecDepth 100000 in
theorem c_s_X4_clear (l : Launch) (dC : Nat → ClassId) (dI : Nat → Nat → Nat) (cB cI cJ cZ cP : ClassId) (h0 : Nat) (h1 : Nat) (g0 : Nat → Int32) (h2 : Nat) (h3 : Nat) (a0 : Int32) (a1 : Int32) (a2 : Int32) (a3 : Int32) (a4 : Int32) (sz : Nat) : Met l yX4_clear v_s_X4_clear ({ frames := 1, cells := 0, slots := 0, locals := 23 }) (va_Pc [.ref h0] (fun U => U.heap.size = sz ∧ va_P (dC, dI) vwCl [(h0, .inr (4, [.ref h1, .ref h2, .int a1, .int a2, .int a3, .int a4])), (h1, .inl (cI, 81, .inl g0)), (h2, .inr (3, [.ref h3, .int a0]))] U.heap ∧ va_K (dC, dI) vwCl (ty5 cB cI cJ cZ cP) U ∧ va_D (fun _ => True) [(h0, .inr (4, [.ref h1, .ref h2, .int a1, .int a2, .int a3, .int a4])), (h1, .inl (cI, 81, .inl g0)), (h2, .inr (3, [.ref h3, .int a0]))])) (va_Qv (fun _ : Unit => True) (fun _ t => ∃ (z0 : Nat → Int32), va_P (dC, dI) vwCl [(h0, .inr (4, [.ref h1, .ref h2, .int 0, .int 0, .int a3, .int a4])), (h1, .inl (cI, 81, .inl z0)), (h2, .inr (3, [.ref h3, .int 0]))] t.heap ∧ va_D (va_A [(h0, .inr (4, [.ref h1, .ref h2, .int a1, .int a2, .int a3, .int a4])), (h1, .inl (cI, 81, .inl g0)), (h2, .inr (3, [.ref h3, .int a0]))] sz) [(h0, .inr (4, [.ref h1, .ref h2, .int 0, .int 0, .int a3, .int a4])), (h1, .inl (cI, 81, .inl z0)), (h2, .inr (3, [.ref h3, .int 0]))]) (va_A [(h0, .inr (4, [.ref h1, .ref h2, .int a1, .int a2, .int a3, .int a4])), (h1, .inl (cI, 81, .inl g0)), (h2, .inr (3, [.ref h3, .int a0]))] sz)) 0 0 (va_A [(h0, .inr (4, [.ref h1, .ref h2, .int a1, .int a2, .int a3, .int a4])), (h1, .inl (cI, 81, .inl g0)), (h2, .inr (3, [.ref h3, .int a0]))] sz) := by
  refine Met.ofW (cc := cX4_clear) (maxL := 1) (ret := none) (by decide) rfl ?_
  intro p e s m args below meth c s₁ B hml hv
  obtain ⟨rfl, hsz, hP, hK, hD0⟩ := hv
  have hx := B.exec
  have hb := B.bytes
  have hr := B.returns
  have hts := atoms_spec (ws := v_s_X4_clear) B.pre
  have hown : s.vm.findClass RX4 = some m.cls := findClass_of_methodNamed B.named
  have hlocks := B.notSynchronized
  have hinX3 : ∀ w ∈ wsX30, w ∈ v_s_X4_clear := fun _ h => List.mem_cons_of_mem _ (List.mem_append_right _ (List.mem_append_left _ h))
  have hinX4 : ∀ w ∈ wsX40, w ∈ v_s_X4_clear := fun _ h => List.mem_cons_of_mem _ (List.mem_append_right _ (List.mem_append_right _ (List.mem_append_left _ h)))
  subst hsz
  have hD := hD0.self (sz := s.heap.size)
  generalize hAe : va_A [(h0, .inr (4, [.ref h1, .ref h2, .int a1, .int a2, .int a3, .int a4])), (h1, .inl (cI, 81, .inl g0)), (h2, .inr (3, [.ref h3, .int a0]))] s.heap.size = A at hD ⊢
  have hA : ∀ q : Nat, s.heap.size ≤ q → A q := fun q h => by rw [← hAe]; exact Or.inr h
  have hP : va_P (dC, dI) vwCl [(h0, .inr (4, [.ref h1, .ref h2, .int a1, .int a2, .int a3, .int a4])), (h1, .inl (cI, 81, .inl g0)), (h2, .inr (3, [.ref h3, .int a0]))] s.heap := hP
  have hl := lv_entry ([.ref h0]) (n := 1) (Nat.le_of_ble_eq_true rfl)
  rw [lg_entry_eq]
  generalize (lg_sl ([.ref h0]) ++ List.replicate (1 - (lg_sl ([.ref h0])).length) Slot.unset).toArray = ls at hl ⊢
  have hl : lv_has ls 1 [(0, .ref h0)] := hl
  refine W_gen (A := A) hP (fun H locs hP hS => ?_)
  refine lv_aload_n hx hb dX4_clear_0 rfl (lv_at hl 0 rfl) ?_
  refine va_get (D := (dC, dI)) (ci := 4) (v := .ref h1) (C := RX4) (T := TX4) (N := 6) hx hb hts hinX4 hown hK hP 0 rfl rfl 0 (by decide) (hts (.fieldLink RX4 9 "MayRings$Past" "met" "[I") (List.mem_of_getElem? (i := 1) rfl)) (fun _ h9 => h9) rfl dX4_clear_1 ?_
  refine lv_iconst (v := 0) hx hb dX4_clear_4 (by decide) ?_
  have hPc := hP.sub (ws' := [(h1, .inl (cI, 81, .inl g0))]) [1] rfl
  have hDc := hD.sub (ws' := [(h1, .inl (cI, 81, .inl g0))]) [1] (by decide) rfl
  have hFc := va_free (wc := [(h1, .inl (cI, 81, .inl g0))]) hD hS hA [1] rfl
  refine va_callv (va_runS (As := [.ref h1, .int 0]) (rest := []) ⟨hx, hb, hml, hown, hts⟩ (c_fill l dC dI cB cI cJ cZ cP h1 81 g0 0 (by decide) H.size) (va_cwS 2 hts (gd_S (List.mem_of_getElem? (i := 2) rfl) (List.mem_of_getElem? (i := 3) rfl) (List.mem_of_getElem? (i := 4) rfl) (gd_mono k_fill (fun _ h => List.mem_cons_of_mem _ (List.mem_append_right _ (List.mem_append_right _ (List.mem_append_right _ (List.mem_append_left _ h))))))) rfl rfl rfl (by decide +kernel) ⟨Nat.le_of_ble_eq_true rfl, Nat.le_of_ble_eq_true rfl⟩) ⟨fun a U g mk q => by obtain ⟨q0, q1, qP, qK, qD⟩ := q; exact ⟨q0, q1, qP, va_K.moved (u := U) (U := U.calling g mk a) (Vm.Alike.refl U.vm) qK, qD⟩, fun U hU hW => ⟨rfl, by rw [hU], by rw [hU]; exact hPc, va_K.moved hW.alike hK, hDc.weaken (fun _ _ _ _ => trivial)⟩⟩ rfl rfl hl.1 rfl (lv_room (Nat.le_of_ble_eq_true rfl)) dX4_clear_5 ⟨Nat.le_of_ble_eq_true rfl, Nat.le_of_ble_eq_true rfl⟩) hS (fun q _ h => hFc q h) hFc (fun u t H1 locs ht hvm hw hB hz1 hk1 hS => ?_)
  obtain ⟨f_2, ef_2, hP1, hD1⟩ := hB
  rw [ht] at hP1
  obtain ⟨hP, hD⟩ := va_join (wr := [(h0, .inr (4, [.ref h1, .ref h2, .int a1, .int a2, .int a3, .int a4])), (h2, .inr (3, [.ref h3, .int a0]))]) (w1 := [(h1, .inl (cI, 81, .inl f_2))]) hP hD [1] [0, 2] rfl rfl (by decide) (by decide) hk1 hFc hP1 hD1
  generalize H1 = H at hP hS ⊢
  clear ef_2
  have hP : va_P (dC, dI) vwCl [(h0, .inr (4, [.ref h1, .ref h2, .int a1, .int a2, .int a3, .int a4])), (h2, .inr (3, [.ref h3, .int a0])), (h1, .inl (cI, 81, .inl f_2))] H := hP
  have hD : va_D A [(h0, .inr (4, [.ref h1, .ref h2, .int a1, .int a2, .int a3, .int a4])), (h2, .inr (3, [.ref h3, .int a0])), (h1, .inl (cI, 81, .inl f_2))] := hD
  refine lv_aload_n hx hb dX4_clear_8 rfl (lv_at hl 0 rfl) ?_
  refine va_get (D := (dC, dI)) (ci := 4) (v := .ref h2) (C := RX4) (T := TX4) (N := 6) hx hb hts hinX4 hown hK hP 0 rfl rfl 1 (by decide) (hts (.fieldLink RX4 18 "MayRings$Past" "standing" "LMayRings$Order;") (List.mem_of_getElem? (i := 5) rfl)) (fun _ h9 => h9) rfl dX4_clear_9 ?_
  refine lv_iconst (v := 0) hx hb dX4_clear_12 (by decide) ?_
  refine va_put (D := (dC, dI)) (ci := 3) (v := .int 0) (ty := .int) (C := RX3) (T := TX3) (N := 2) hx hb hts hinX3 tyX3 tyX3_ok nmX3 hown hK hP hD hS 1 rfl rfl 1 (by decide) (hts (.fieldLink RX4 42 "MayRings$Order" "size" "I") (List.mem_of_getElem? (i := 6) rfl)) (fun _ h9 => h9) rfl (by decide +kernel) (rfl) (rfl) (Nat.le_of_ble_eq_true rfl) dX4_clear_13 (fun H locs hP hD hS => ?_)
  have hP : va_P (dC, dI) vwCl [(h0, .inr (4, [.ref h1, .ref h2, .int a1, .int a2, .int a3, .int a4])), (h2, .inr (3, [.ref h3, .int 0])), (h1, .inl (cI, 81, .inl f_2))] H := hP
  have hD : va_D A [(h0, .inr (4, [.ref h1, .ref h2, .int a1, .int a2, .int a3, .int a4])), (h2, .inr (3, [.ref h3, .int 0])), (h1, .inl (cI, 81, .inl f_2))] := hD
  refine lv_aload_n hx hb dX4_clear_16 rfl (lv_at hl 0 rfl) ?_
  refine lv_iconst (v := 0) hx hb dX4_clear_17 (by decide) ?_
  refine va_put (D := (dC, dI)) (ci := 4) (v := .int 0) (ty := .int) (C := RX4) (T := TX4) (N := 6) hx hb hts hinX4 tyX4 tyX4_ok nmX4 hown hK hP hD hS 0 rfl rfl 2 (by decide) (hts (.fieldLink RX4 22 "MayRings$Past" "years" "I") (List.mem_of_getElem? (i := 7) rfl)) (fun _ h9 => h9) rfl (by decide +kernel) (rfl) (rfl) (Nat.le_of_ble_eq_true rfl) dX4_clear_18 (fun H locs hP hD hS => ?_)
  have hP : va_P (dC, dI) vwCl [(h0, .inr (4, [.ref h1, .ref h2, .int 0, .int a2, .int a3, .int a4])), (h2, .inr (3, [.ref h3, .int 0])), (h1, .inl (cI, 81, .inl f_2))] H := hP
  have hD : va_D A [(h0, .inr (4, [.ref h1, .ref h2, .int 0, .int a2, .int a3, .int a4])), (h2, .inr (3, [.ref h3, .int 0])), (h1, .inl (cI, 81, .inl f_2))] := hD
  refine lv_aload_n hx hb dX4_clear_21 rfl (lv_at hl 0 rfl) ?_
  refine lv_iconst (v := 0) hx hb dX4_clear_22 (by decide) ?_
  refine va_put (D := (dC, dI)) (ci := 4) (v := .int 0) (ty := .int) (C := RX4) (T := TX4) (N := 6) hx hb hts hinX4 tyX4 tyX4_ok nmX4 hown hK hP hD hS 0 rfl rfl 3 (by decide) (hts (.fieldLink RX4 26 "MayRings$Past" "out" "I") (List.mem_of_getElem? (i := 8) rfl)) (fun _ h9 => h9) rfl (by decide +kernel) (rfl) (rfl) (Nat.le_of_ble_eq_true rfl) dX4_clear_23 (fun H locs hP hD hS => ?_)
  have hP : va_P (dC, dI) vwCl [(h0, .inr (4, [.ref h1, .ref h2, .int 0, .int 0, .int a3, .int a4])), (h2, .inr (3, [.ref h3, .int 0])), (h1, .inl (cI, 81, .inl f_2))] H := hP
  have hD : va_D A [(h0, .inr (4, [.ref h1, .ref h2, .int 0, .int 0, .int a3, .int a4])), (h2, .inr (3, [.ref h3, .int 0])), (h1, .inl (cI, 81, .inl f_2))] := hD
  have hP9 := hP.sub (ws' := [(h0, .inr (4, [.ref h1, .ref h2, .int 0, .int 0, .int a3, .int a4])), (h1, .inl (cI, 81, .inl f_2)), (h2, .inr (3, [.ref h3, .int 0]))]) [0, 2, 1] rfl
  have hD9 := hD.sub (ws' := [(h0, .inr (4, [.ref h1, .ref h2, .int 0, .int 0, .int a3, .int a4])), (h1, .inl (cI, 81, .inl f_2)), (h2, .inr (3, [.ref h3, .int 0]))]) [0, 2, 1] (by decide) rfl
  exact W.vret hx hb hr (fun t ht hW => ⟨⟨(), rfl, trivial, ⟨f_2, by rw [ht]; exact hP9, hD9⟩⟩, hS.F ht⟩) hS.2.2 dX4_clear_26
def v_s_J9_floorMod_7cf53 : List Cond := Cond.code yJ9_floorMod_7cf53 cJ9_floorMod_7cf53 3 (some .int) :: ([] ++ ([]))
theorem k_s_J9_floorMod_7cf53 : GoodIn lw_tbl v_s_J9_floorMod_7cf53 := gd_c (List.mem_of_getElem? (i := 1110) (by decide +kernel)) rfl (goodIn_app (gd_nil) (gd_nil))
set_option maxHeartbeats 2000000 in
set_option maxRecDepth 100000 in
theorem c_s_J9_floorMod_7cf53 (l : Launch) (dC : Nat → ClassId) (dI : Nat → Nat → Nat) (cB cI cJ cZ cP : ClassId) (p0 : Int32) (p1 : Int32) (hp1 : rg (1) (8) p1) (sz : Nat) : Met l yJ9_floorMod_7cf53 v_s_J9_floorMod_7cf53 ({ frames := 0, cells := 0, slots := 0, locals := 0 }) (va_Pc [.int p0, .int p1] (fun U => U.heap.size = sz ∧ va_P (dC, dI) vwCl [] U.heap ∧ va_K (dC, dI) vwCl (ty5 cB cI cJ cZ cP) U ∧ va_D (fun _ => True) [])) (va_Qi (fun (r : Int32) (u9 : Unit) => rg (-7) (15) r) (fun u9 t => va_P (dC, dI) vwCl [] t.heap ∧ va_D (va_A [] sz) []) (va_A [] sz)) 0 0 (va_A [] sz) := by
  refine Met.ofW (cc := cJ9_floorMod_7cf53) (maxL := 3) (ret := (some .int)) (by decide) rfl ?_
  intro p e s m args below meth c s₁ B hml hv
  obtain ⟨rfl, hsz, hP, hK, hD0⟩ := hv
  have hx := B.exec
  have hb := B.bytes
  have hr := B.returns
  have hts := atoms_spec (ws := v_s_J9_floorMod_7cf53) B.pre
  have hown : s.vm.findClass RJ9 = some m.cls := findClass_of_methodNamed B.named
  have hlocks := B.notSynchronized
  subst hsz
  have hD := hD0.self (sz := s.heap.size)
  generalize hAe : va_A [] s.heap.size = A at hD ⊢
  have hA : ∀ q : Nat, s.heap.size ≤ q → A q := fun q h => by rw [← hAe]; exact Or.inr h
  have hP : va_P (dC, dI) vwCl [] s.heap := hP
  have hl := lv_entry ([.int p0, .int p1]) (n := 3) (Nat.le_of_ble_eq_true rfl)
  rw [lg_entry_eq]
  generalize (lg_sl ([.int p0, .int p1]) ++ List.replicate (3 - (lg_sl ([.int p0, .int p1])).length) Slot.unset).toArray = ls at hl ⊢
  have hl : lv_has ls 3 [(0, .int p0), (1, .int p1)] := hl
  refine W_gen (A := A) hP (fun H locs hP hS => ?_)
  refine lv_iload_n hx hb dJ9_floorMod_7cf53_0 rfl (lv_at hl 0 rfl) ?_
  refine lv_iload_n hx hb dJ9_floorMod_7cf53_1 rfl (lv_at hl 1 rfl) ?_
  refine lv_irem hx hb dJ9_floorMod_7cf53_2 (rg_nz (b := 8) (rg_mono hp1 (by decide) (by decide))) ?_
  refine lv_topi (fun x_1 ex_1 => ?_)
  have hx_1 : rg (-7) (7) x_1 := by rw [ex_1]; exact rg_mono (rg_remS (d := 8) (rg_mono hp1 (by decide) (by decide))) (by decide) (by decide)
  refine lv_istore_n (lv' := [(2, .int x_1), (0, .int p0), (1, .int p1)]) hx hb dJ9_floorMod_7cf53_3 rfl hl (by decide) rfl (fun ls hl => ?_)
  refine lv_iload_n hx hb dJ9_floorMod_7cf53_4 rfl (lv_at hl 1 rfl) ?_
  refine lv_iload_n hx hb dJ9_floorMod_7cf53_5 rfl (lv_at hl 2 rfl) ?_
  refine lv_ixor hx hb dJ9_floorMod_7cf53_6 ?_
  refine lv_topi (fun x_2 ex_2 => ?_)
  refine lv_if_ge (tgt := 18) hx hb dJ9_floorMod_7cf53_7 (by decide) (fun c_3 => ?_) (fun c_3 => ?_)
  · skip
    have h_4 : rg (0) (2147483647) x_2 := by have ha := (rg_any x_2); have hb_ := (rg_k (x := 0) (c := 0) (by decide)); simp only [rg, fa_lt, fa_le, fa_eq, (by decide : (0 : Int32).toInt = 0)] at ha hb_ c_3; simp only [rg]; omega
    refine lv_iload_n hx hb dJ9_floorMod_7cf53_18 rfl (lv_at hl 0 rfl) ?_
    have hP9 := hP.sub (ws' := []) [] rfl
    have hD9 := hD.sub (ws' := []) [] (by decide) rfl
    exact W.iret (v := x_1) hx hb hr (fun t ht hW => ⟨⟨x_1, (), rfl, (rg_mono hx_1 (by decide) (by decide)), ⟨by rw [ht]; exact hP9, hD9⟩⟩, hS.F ht⟩) hS.2.2 dJ9_floorMod_7cf53_19
  · skip
    have h_5 : rg (-2147483648) (-1) x_2 := by have ha := (rg_any x_2); have hb_ := (rg_k (x := 0) (c := 0) (by decide)); simp only [rg, fa_lt, fa_le, fa_eq, (by decide : (0 : Int32).toInt = 0)] at ha hb_ c_3; simp only [rg]; omega
    refine lv_iload_n hx hb dJ9_floorMod_7cf53_10 rfl (lv_at hl 0 rfl) ?_
    refine lv_if_eq (tgt := 18) hx hb dJ9_floorMod_7cf53_11 (by decide) (fun c_6 => ?_) (fun c_6 => ?_)
    · skip
      have h_7 : rg (0) (0) x_1 := by have ha := hx_1; have hb_ := (rg_k (x := 0) (c := 0) (by decide)); simp only [rg, fa_lt, fa_le, fa_eq, (by decide : (0 : Int32).toInt = 0)] at ha hb_ c_6; simp only [rg]; omega
      refine lv_iload_n hx hb dJ9_floorMod_7cf53_18 rfl (lv_at hl 0 rfl) ?_
      have hP9 := hP.sub (ws' := []) [] rfl
      have hD9 := hD.sub (ws' := []) [] (by decide) rfl
      exact W.iret (v := x_1) hx hb hr (fun t ht hW => ⟨⟨x_1, (), rfl, (rg_mono h_7 (by decide) (by decide)), ⟨by rw [ht]; exact hP9, hD9⟩⟩, hS.F ht⟩) hS.2.2 dJ9_floorMod_7cf53_19
    · skip
      refine lv_iload_n hx hb dJ9_floorMod_7cf53_14 rfl (lv_at hl 0 rfl) ?_
      refine lv_iload_n hx hb dJ9_floorMod_7cf53_15 rfl (lv_at hl 2 rfl) ?_
      refine lv_iadd hx hb dJ9_floorMod_7cf53_16 ?_
      refine lv_topi (fun x_8 ex_8 => ?_)
      have hx_8 : rg (-6) (15) x_8 := by rw [ex_8]; exact rg_mono (rg_add hx_1 hp1 (by decide) (by decide)) (by decide) (by decide)
      have qx_8 : x_8.toInt = x_1.toInt + p1.toInt := by rw [ex_8]; exact rg_addQ hx_1 hp1 (by decide) (by decide)
      have hP9 := hP.sub (ws' := []) [] rfl
      have hD9 := hD.sub (ws' := []) [] (by decide) rfl
      exact W.iret (v := x_8) hx hb hr (fun t ht hW => ⟨⟨x_8, (), rfl, (rg_mono hx_8 (by decide) (by decide)), ⟨by rw [ht]; exact hP9, hD9⟩⟩, hS.F ht⟩) hS.2.2 dJ9_floorMod_7cf53_17
def v_s_X8_ruled : List Cond := Cond.code yX8_ruled cX8_ruled 4 (some .int) :: ([Cond.fieldLink RX8 27 "MayRings" "ground" "LMayRings$Valley;", Cond.fieldLink RX8 108 "MayRings$Valley" "houses" "I", Cond.fieldLink RX8 34 "MayRings" "past" "LMayRings$Past;", Cond.fieldLink RX8 142 "MayRings$Past" "out" "I", Cond.methodLink RX8 263 yJ9_floorMod_7cf53, Cond.static yJ9_floorMod_7cf53, Cond.initialized RJ9] ++ (wsX40 ++ (wsX60 ++ (wsX80 ++ (v_s_J9_floorMod_7cf53 ++ ([]))))))
theorem k_s_X8_ruled : GoodIn lw_tbl v_s_X8_ruled := gd_c (List.mem_of_getElem? (i := 1107) (by decide +kernel)) rfl (goodIn_app (gd_c (List.mem_of_getElem? (i := 534) (by decide +kernel)) rfl (gd_c (List.mem_of_getElem? (i := 225) (by decide +kernel)) rfl (gd_c (List.mem_of_getElem? (i := 535) (by decide +kernel)) rfl (gd_c (List.mem_of_getElem? (i := 379) (by decide +kernel)) rfl (gd_c (List.mem_of_getElem? (i := 1108) (by decide +kernel)) rfl (gd_c (List.mem_of_getElem? (i := 1109) (by decide +kernel)) rfl (gd_c (List.mem_of_getElem? (i := 145) (by decide +kernel)) rfl (gd_nil)))))))) (goodIn_app kfX4 (goodIn_app kfX6 (goodIn_app kfX8 (goodIn_app k_s_J9_floorMod_7cf53 (gd_nil))))))
set_option maxHeartbeats 2000000 in
set_option maxRecDepth 100000 in
theorem c_s_X8_ruled (l : Launch) (dC : Nat → ClassId) (dI : Nat → Nat → Nat) (cB cI cJ cZ cP : ClassId) (h0 : Nat) (h1 : Nat) (a0 : Int32) (h2 : Nat) (h17 : Nat) (h18 : Nat) (h19 : Nat) (h20 : Nat) (h21 : Nat) (h22 : Nat) (h23 : Nat) (a18 : Int32) (ha18 : rg (0) (9) a18) (a19 : Int32) (a20 : Int32) (a21 : Int32) (h27 : Nat) (h28 : Nat) (h29 : Nat) (a23 : Int32) (a24 : Int32) (ha24 : rg (0) (511) a24) (a25 : Int32) (a26 : Int32) (h31 : Nat) (h44 : Nat) (h51 : Nat) (h53 : Nat) (h55 : Nat) (h62 : Nat) (h69 : Nat) (p0 : Int32) (p1 : Int32) (sz : Nat) : Met l yX8_ruled v_s_X8_ruled ({ frames := 1, cells := 0, slots := 0, locals := 22 }) (va_Pc [.ref h0, .int p0, .int p1] (fun U => U.heap.size = sz ∧ va_P (dC, dI) vwCl [(h0, .inr (8, [.ref h1, .int a0, .ref h2, .ref h17, .ref h27, .ref h31, .ref h44, .ref h51, .ref h53, .ref h55, .ref h62, .ref h69])), (h17, .inr (6, [.ref h18, .ref h19, .ref h20, .ref h21, .ref h22, .ref h23, .int a18, .int a19, .int a20, .int a21])), (h27, .inr (4, [.ref h28, .ref h29, .int a23, .int a24, .int a25, .int a26]))] U.heap ∧ va_K (dC, dI) vwCl (ty5 cB cI cJ cZ cP) U ∧ va_D (fun _ => True) [(h0, .inr (8, [.ref h1, .int a0, .ref h2, .ref h17, .ref h27, .ref h31, .ref h44, .ref h51, .ref h53, .ref h55, .ref h62, .ref h69])), (h17, .inr (6, [.ref h18, .ref h19, .ref h20, .ref h21, .ref h22, .ref h23, .int a18, .int a19, .int a20, .int a21])), (h27, .inr (4, [.ref h28, .ref h29, .int a23, .int a24, .int a25, .int a26]))])) (va_Qi (fun (r : Int32) (u9 : Unit) => rg (-7) (15) r) (fun u9 t => va_P (dC, dI) vwCl [(h0, .inr (8, [.ref h1, .int a0, .ref h2, .ref h17, .ref h27, .ref h31, .ref h44, .ref h51, .ref h53, .ref h55, .ref h62, .ref h69])), (h17, .inr (6, [.ref h18, .ref h19, .ref h20, .ref h21, .ref h22, .ref h23, .int a18, .int a19, .int a20, .int a21])), (h27, .inr (4, [.ref h28, .ref h29, .int a23, .int a24, .int a25, .int a26]))] t.heap ∧ va_D (va_A [(h0, .inr (8, [.ref h1, .int a0, .ref h2, .ref h17, .ref h27, .ref h31, .ref h44, .ref h51, .ref h53, .ref h55, .ref h62, .ref h69])), (h17, .inr (6, [.ref h18, .ref h19, .ref h20, .ref h21, .ref h22, .ref h23, .int a18, .int a19, .int a20, .int a21])), (h27, .inr (4, [.ref h28, .ref h29, .int a23, .int a24, .int a25, .int a26]))] sz) [(h0, .inr (8, [.ref h1, .int a0, .ref h2, .ref h17, .ref h27, .ref h31, .ref h44, .ref h51, .ref h53, .ref h55, .ref h62, .ref h69])), (h17, .inr (6, [.ref h18, .ref h19, .ref h20, .ref h21, .ref h22, .ref h23, .int a18, .int a19, .int a20, .int a21])), (h27, .inr (4, [.ref h28, .ref h29, .int a23, .int a24, .int a25, .int a26]))]) (va_A [(h0, .inr (8, [.ref h1, .int a0, .ref h2, .ref h17, .ref h27, .ref h31, .ref h44, .ref h51, .ref h53, .ref h55, .ref h62, .ref h69])), (h17, .inr (6, [.ref h18, .ref h19, .ref h20, .ref h21, .ref h22, .ref h23, .int a18, .int a19, .int a20, .int a21])), (h27, .inr (4, [.ref h28, .ref h29, .int a23, .int a24, .int a25, .int a26]))] sz)) 0 0 (va_A [(h0, .inr (8, [.ref h1, .int a0, .ref h2, .ref h17, .ref h27, .ref h31, .ref h44, .ref h51, .ref h53, .ref h55, .ref h62, .ref h69])), (h17, .inr (6, [.ref h18, .ref h19, .ref h20, .ref h21, .ref h22, .ref h23, .int a18, .int a19, .int a20, .int a21])), (h27, .inr (4, [.ref h28, .ref h29, .int a23, .int a24, .int a25, .int a26]))] sz) := by
  refine Met.ofW (cc := cX8_ruled) (maxL := 4) (ret := (some .int)) (by decide) rfl ?_
  intro p e s m args below meth c s₁ B hml hv
  obtain ⟨rfl, hsz, hP, hK, hD0⟩ := hv
  have hx := B.exec
  have hb := B.bytes
  have hr := B.returns
  have hts := atoms_spec (ws := v_s_X8_ruled) B.pre
  have hown : s.vm.findClass RX8 = some m.cls := findClass_of_methodNamed B.named
  have hlocks := B.notSynchronized
  have hinX4 : ∀ w ∈ wsX40, w ∈ v_s_X8_ruled := fun _ h => List.mem_cons_of_mem _ (List.mem_append_right _ (List.mem_append_left _ h))
  have hinX6 : ∀ w ∈ wsX60, w ∈ v_s_X8_ruled := fun _ h => List.mem_cons_of_mem _ (List.mem_append_right _ (List.mem_append_right _ (List.mem_append_left _ h)))
  have hinX8 : ∀ w ∈ wsX80, w ∈ v_s_X8_ruled := fun _ h => List.mem_cons_of_mem _ (List.mem_append_right _ (List.mem_append_right _ (List.mem_append_right _ (List.mem_append_left _ h))))
  subst hsz
  have hD := hD0.self (sz := s.heap.size)
  generalize hAe : va_A [(h0, .inr (8, [.ref h1, .int a0, .ref h2, .ref h17, .ref h27, .ref h31, .ref h44, .ref h51, .ref h53, .ref h55, .ref h62, .ref h69])), (h17, .inr (6, [.ref h18, .ref h19, .ref h20, .ref h21, .ref h22, .ref h23, .int a18, .int a19, .int a20, .int a21])), (h27, .inr (4, [.ref h28, .ref h29, .int a23, .int a24, .int a25, .int a26]))] s.heap.size = A at hD ⊢
  have hA : ∀ q : Nat, s.heap.size ≤ q → A q := fun q h => by rw [← hAe]; exact Or.inr h
  have hP : va_P (dC, dI) vwCl [(h0, .inr (8, [.ref h1, .int a0, .ref h2, .ref h17, .ref h27, .ref h31, .ref h44, .ref h51, .ref h53, .ref h55, .ref h62, .ref h69])), (h17, .inr (6, [.ref h18, .ref h19, .ref h20, .ref h21, .ref h22, .ref h23, .int a18, .int a19, .int a20, .int a21])), (h27, .inr (4, [.ref h28, .ref h29, .int a23, .int a24, .int a25, .int a26]))] s.heap := hP
  have hl := lv_entry ([.ref h0, .int p0, .int p1]) (n := 4) (Nat.le_of_ble_eq_true rfl)
  rw [lg_entry_eq]
  generalize (lg_sl ([.ref h0, .int p0, .int p1]) ++ List.replicate (4 - (lg_sl ([.ref h0, .int p0, .int p1])).length) Slot.unset).toArray = ls at hl ⊢
  have hl : lv_has ls 4 [(0, .ref h0), (1, .int p0), (2, .int p1)] := hl
  refine W_gen (A := A) hP (fun H locs hP hS => ?_)
  refine lv_aload_n hx hb dX8_ruled_0 rfl (lv_at hl 0 rfl) ?_
  refine va_get (D := (dC, dI)) (ci := 8) (v := .ref h17) (C := RX8) (T := TX8) (N := 12) hx hb hts hinX8 hown hK hP 0 rfl rfl 3 (by decide) (hts (.fieldLink RX8 27 "MayRings" "ground" "LMayRings$Valley;") (List.mem_of_getElem? (i := 1) rfl)) (fun _ h9 => h9) rfl dX8_ruled_1 ?_
  refine va_get (D := (dC, dI)) (ci := 6) (v := .int a18) (C := RX6) (T := TX6) (N := 10) hx hb hts hinX6 hown hK hP 1 rfl rfl 6 (by decide) (hts (.fieldLink RX8 108 "MayRings$Valley" "houses" "I") (List.mem_of_getElem? (i := 2) rfl)) (fun _ h9 => h9) rfl dX8_ruled_4 ?_
  refine lv_istore_n (lv' := [(3, .int a18), (0, .ref h0), (1, .int p0), (2, .int p1)]) hx hb dX8_ruled_7 rfl hl (by decide) rfl (fun ls hl => ?_)
  refine lv_aload_n hx hb dX8_ruled_8 rfl (lv_at hl 1 rfl) ?_
  refine va_get (D := (dC, dI)) (ci := 8) (v := .ref h27) (C := RX8) (T := TX8) (N := 12) hx hb hts hinX8 hown hK hP 0 rfl rfl 4 (by decide) (hts (.fieldLink RX8 34 "MayRings" "past" "LMayRings$Past;") (List.mem_of_getElem? (i := 3) rfl)) (fun _ h9 => h9) rfl dX8_ruled_9 ?_
  refine va_get (D := (dC, dI)) (ci := 4) (v := .int a24) (C := RX4) (T := TX4) (N := 6) hx hb hts hinX4 hown hK hP 2 rfl rfl 3 (by decide) (hts (.fieldLink RX8 142 "MayRings$Past" "out" "I") (List.mem_of_getElem? (i := 4) rfl)) (fun _ h9 => h9) rfl dX8_ruled_12 ?_
  refine lv_if_ne (tgt := 51) hx hb dX8_ruled_15 (by decide) (fun c_1 => ?_) (fun c_1 => ?_)
  · skip
    have h_2 : rg (1) (511) a24 := by have ha := ha24; have hb_ := (rg_k (x := 0) (c := 0) (by decide)); simp only [rg, fa_lt, fa_le, fa_eq, (by decide : (0 : Int32).toInt = 0)] at ha hb_ c_1; simp only [rg]; omega
    refine lv_iconst (v := (-1)) hx hb dX8_ruled_51 (by decide) ?_
    have hP9 := hP.sub (ws' := [(h0, .inr (8, [.ref h1, .int a0, .ref h2, .ref h17, .ref h27, .ref h31, .ref h44, .ref h51, .ref h53, .ref h55, .ref h62, .ref h69])), (h17, .inr (6, [.ref h18, .ref h19, .ref h20, .ref h21, .ref h22, .ref h23, .int a18, .int a19, .int a20, .int a21])), (h27, .inr (4, [.ref h28, .ref h29, .int a23, .int a24, .int a25, .int a26]))]) [0, 1, 2] rfl
    have hD9 := hD.sub (ws' := [(h0, .inr (8, [.ref h1, .int a0, .ref h2, .ref h17, .ref h27, .ref h31, .ref h44, .ref h51, .ref h53, .ref h55, .ref h62, .ref h69])), (h17, .inr (6, [.ref h18, .ref h19, .ref h20, .ref h21, .ref h22, .ref h23, .int a18, .int a19, .int a20, .int a21])), (h27, .inr (4, [.ref h28, .ref h29, .int a23, .int a24, .int a25, .int a26]))]) [0, 1, 2] (by decide) rfl
    exact W.iret (v := (-1)) hx hb hr (fun t ht hW => ⟨⟨(-1), (), rfl, (rg_mono (rg_k (x := (-1)) (c := -1) (by decide)) (by decide) (by decide)), ⟨by rw [ht]; exact hP9, hD9⟩⟩, hS.F ht⟩) hS.2.2 dX8_ruled_52
  · skip
    have h_3 : rg (0) (0) a24 := by have ha := ha24; have hb_ := (rg_k (x := 0) (c := 0) (by decide)); simp only [rg, fa_lt, fa_le, fa_eq, (by decide : (0 : Int32).toInt = 0)] at ha hb_ c_1; simp only [rg]; omega
    refine lv_iload_n hx hb dX8_ruled_18 rfl (lv_at hl 0 rfl) ?_
    refine lv_iconst (v := 3) hx hb dX8_ruled_19 (by decide) ?_
    refine lv_icmp_lt (tgt := 51) hx hb dX8_ruled_20 (by decide) (fun c_4 => ?_) (fun c_4 => ?_)
    · skip
      have h_5 : rg (0) (2) a18 := by have ha := ha18; have hb_ := (rg_k (x := 3) (c := 3) (by decide)); simp only [rg, fa_lt, fa_le, fa_eq, (by decide : (3 : Int32).toInt = 3)] at ha hb_ c_4; simp only [rg]; omega
      refine lv_iconst (v := (-1)) hx hb dX8_ruled_51 (by decide) ?_
      have hP9 := hP.sub (ws' := [(h0, .inr (8, [.ref h1, .int a0, .ref h2, .ref h17, .ref h27, .ref h31, .ref h44, .ref h51, .ref h53, .ref h55, .ref h62, .ref h69])), (h17, .inr (6, [.ref h18, .ref h19, .ref h20, .ref h21, .ref h22, .ref h23, .int a18, .int a19, .int a20, .int a21])), (h27, .inr (4, [.ref h28, .ref h29, .int a23, .int a24, .int a25, .int a26]))]) [0, 1, 2] rfl
      have hD9 := hD.sub (ws' := [(h0, .inr (8, [.ref h1, .int a0, .ref h2, .ref h17, .ref h27, .ref h31, .ref h44, .ref h51, .ref h53, .ref h55, .ref h62, .ref h69])), (h17, .inr (6, [.ref h18, .ref h19, .ref h20, .ref h21, .ref h22, .ref h23, .int a18, .int a19, .int a20, .int a21])), (h27, .inr (4, [.ref h28, .ref h29, .int a23, .int a24, .int a25, .int a26]))]) [0, 1, 2] (by decide) rfl
      exact W.iret (v := (-1)) hx hb hr (fun t ht hW => ⟨⟨(-1), (), rfl, (rg_mono (rg_k (x := (-1)) (c := -1) (by decide)) (by decide) (by decide)), ⟨by rw [ht]; exact hP9, hD9⟩⟩, hS.F ht⟩) hS.2.2 dX8_ruled_52
    · skip
      have h_6 : rg (3) (9) a18 := by have ha := ha18; have hb_ := (rg_k (x := 3) (c := 3) (by decide)); simp only [rg, fa_lt, fa_le, fa_eq, (by decide : (3 : Int32).toInt = 3)] at ha hb_ c_4; simp only [rg]; omega
      refine lv_iload_n hx hb dX8_ruled_23 rfl (lv_at hl 0 rfl) ?_
      refine lv_iconst (v := 2) hx hb dX8_ruled_24 (by decide) ?_
      refine lv_irem hx hb dX8_ruled_25 (by decide) ?_
      refine lv_topi (fun x_7 ex_7 => ?_)
      have hx_7 : rg (0) (1) x_7 := by rw [ex_7]; exact rg_mono (rg_rem (b := 9) (d := 2) (rg_mono h_6 (by decide) (by decide)) (rg_mono (rg_k (x := 2) (c := 2) (by decide)) (by decide) (by decide))) (by decide) (by decide)
      refine lv_if_eq (tgt := 51) hx hb dX8_ruled_26 (by decide) (fun c_8 => ?_) (fun c_8 => ?_)
      · skip
        have h_9 : rg (0) (0) x_7 := by have ha := hx_7; have hb_ := (rg_k (x := 0) (c := 0) (by decide)); simp only [rg, fa_lt, fa_le, fa_eq, (by decide : (0 : Int32).toInt = 0)] at ha hb_ c_8; simp only [rg]; omega
        refine lv_iconst (v := (-1)) hx hb dX8_ruled_51 (by decide) ?_
        have hP9 := hP.sub (ws' := [(h0, .inr (8, [.ref h1, .int a0, .ref h2, .ref h17, .ref h27, .ref h31, .ref h44, .ref h51, .ref h53, .ref h55, .ref h62, .ref h69])), (h17, .inr (6, [.ref h18, .ref h19, .ref h20, .ref h21, .ref h22, .ref h23, .int a18, .int a19, .int a20, .int a21])), (h27, .inr (4, [.ref h28, .ref h29, .int a23, .int a24, .int a25, .int a26]))]) [0, 1, 2] rfl
        have hD9 := hD.sub (ws' := [(h0, .inr (8, [.ref h1, .int a0, .ref h2, .ref h17, .ref h27, .ref h31, .ref h44, .ref h51, .ref h53, .ref h55, .ref h62, .ref h69])), (h17, .inr (6, [.ref h18, .ref h19, .ref h20, .ref h21, .ref h22, .ref h23, .int a18, .int a19, .int a20, .int a21])), (h27, .inr (4, [.ref h28, .ref h29, .int a23, .int a24, .int a25, .int a26]))]) [0, 1, 2] (by decide) rfl
        exact W.iret (v := (-1)) hx hb hr (fun t ht hW => ⟨⟨(-1), (), rfl, (rg_mono (rg_k (x := (-1)) (c := -1) (by decide)) (by decide) (by decide)), ⟨by rw [ht]; exact hP9, hD9⟩⟩, hS.F ht⟩) hS.2.2 dX8_ruled_52
      · skip
        have h_10 : rg (1) (1) x_7 := by have ha := hx_7; have hb_ := (rg_k (x := 0) (c := 0) (by decide)); simp only [rg, fa_lt, fa_le, fa_eq, (by decide : (0 : Int32).toInt = 0)] at ha hb_ c_8; simp only [rg]; omega
        refine lv_iload_n hx hb dX8_ruled_29 rfl (lv_at hl 2 rfl) ?_
        refine lv_if_lt (tgt := 51) hx hb dX8_ruled_30 (by decide) (fun c_11 => ?_) (fun c_11 => ?_)
        · skip
          have h_12 : rg (-2147483648) (-1) p0 := by have ha := (rg_any p0); have hb_ := (rg_k (x := 0) (c := 0) (by decide)); simp only [rg, fa_lt, fa_le, fa_eq, (by decide : (0 : Int32).toInt = 0)] at ha hb_ c_11; simp only [rg]; omega
          refine lv_iconst (v := (-1)) hx hb dX8_ruled_51 (by decide) ?_
          have hP9 := hP.sub (ws' := [(h0, .inr (8, [.ref h1, .int a0, .ref h2, .ref h17, .ref h27, .ref h31, .ref h44, .ref h51, .ref h53, .ref h55, .ref h62, .ref h69])), (h17, .inr (6, [.ref h18, .ref h19, .ref h20, .ref h21, .ref h22, .ref h23, .int a18, .int a19, .int a20, .int a21])), (h27, .inr (4, [.ref h28, .ref h29, .int a23, .int a24, .int a25, .int a26]))]) [0, 1, 2] rfl
          have hD9 := hD.sub (ws' := [(h0, .inr (8, [.ref h1, .int a0, .ref h2, .ref h17, .ref h27, .ref h31, .ref h44, .ref h51, .ref h53, .ref h55, .ref h62, .ref h69])), (h17, .inr (6, [.ref h18, .ref h19, .ref h20, .ref h21, .ref h22, .ref h23, .int a18, .int a19, .int a20, .int a21])), (h27, .inr (4, [.ref h28, .ref h29, .int a23, .int a24, .int a25, .int a26]))]) [0, 1, 2] (by decide) rfl
          exact W.iret (v := (-1)) hx hb hr (fun t ht hW => ⟨⟨(-1), (), rfl, (rg_mono (rg_k (x := (-1)) (c := -1) (by decide)) (by decide) (by decide)), ⟨by rw [ht]; exact hP9, hD9⟩⟩, hS.F ht⟩) hS.2.2 dX8_ruled_52
        · skip
          have h_13 : rg (0) (2147483647) p0 := by have ha := (rg_any p0); have hb_ := (rg_k (x := 0) (c := 0) (by decide)); simp only [rg, fa_lt, fa_le, fa_eq, (by decide : (0 : Int32).toInt = 0)] at ha hb_ c_11; simp only [rg]; omega
          refine lv_iload_n hx hb dX8_ruled_33 rfl (lv_at hl 2 rfl) ?_
          refine lv_iload_n hx hb dX8_ruled_34 rfl (lv_at hl 0 rfl) ?_
          refine lv_iconst (v := 1) hx hb dX8_ruled_35 (by decide) ?_
          refine lv_isub hx hb dX8_ruled_36 ?_
          refine lv_topi (fun x_14 ex_14 => ?_)
          have hx_14 : rg (2) (8) x_14 := by rw [ex_14]; exact rg_mono (rg_sub h_6 (rg_k (x := 1) (c := 1) (by decide)) (by decide) (by decide)) (by decide) (by decide)
          have qx_14 : x_14.toInt = a18.toInt + (-1) := by rw [ex_14]; exact rg_subE h_6 (rg_k (x := 1) (c := 1) (by decide)) (by decide) (by decide) trivial
          refine lv_iconst (v := 2) hx hb dX8_ruled_37 (by decide) ?_
          refine lv_idiv hx hb dX8_ruled_38 (by decide) ?_
          refine lv_topi (fun x_15 ex_15 => ?_)
          have hx_15 : rg (0) (8) x_15 := by rw [ex_15]; exact rg_mono (rg_div (b := 8) (d := 2) (rg_mono hx_14 (by decide) (by decide)) (rg_mono (rg_k (x := 2) (c := 2) (by decide)) (by decide) (by decide))) (by decide) (by decide)
          refine lv_icmp_ge (tgt := 51) hx hb dX8_ruled_39 (by decide) (fun c_16 => ?_) (fun c_16 => ?_)
          · skip
            refine lv_iconst (v := (-1)) hx hb dX8_ruled_51 (by decide) ?_
            have hP9 := hP.sub (ws' := [(h0, .inr (8, [.ref h1, .int a0, .ref h2, .ref h17, .ref h27, .ref h31, .ref h44, .ref h51, .ref h53, .ref h55, .ref h62, .ref h69])), (h17, .inr (6, [.ref h18, .ref h19, .ref h20, .ref h21, .ref h22, .ref h23, .int a18, .int a19, .int a20, .int a21])), (h27, .inr (4, [.ref h28, .ref h29, .int a23, .int a24, .int a25, .int a26]))]) [0, 1, 2] rfl
            have hD9 := hD.sub (ws' := [(h0, .inr (8, [.ref h1, .int a0, .ref h2, .ref h17, .ref h27, .ref h31, .ref h44, .ref h51, .ref h53, .ref h55, .ref h62, .ref h69])), (h17, .inr (6, [.ref h18, .ref h19, .ref h20, .ref h21, .ref h22, .ref h23, .int a18, .int a19, .int a20, .int a21])), (h27, .inr (4, [.ref h28, .ref h29, .int a23, .int a24, .int a25, .int a26]))]) [0, 1, 2] (by decide) rfl
            exact W.iret (v := (-1)) hx hb hr (fun t ht hW => ⟨⟨(-1), (), rfl, (rg_mono (rg_k (x := (-1)) (c := -1) (by decide)) (by decide) (by decide)), ⟨by rw [ht]; exact hP9, hD9⟩⟩, hS.F ht⟩) hS.2.2 dX8_ruled_52
          · skip
            have h_17 : rg (0) (7) p0 := by have ha := h_13; have hb_ := hx_15; simp only [rg, fa_lt, fa_le, fa_eq] at ha hb_ c_16; simp only [rg]; omega
            have h_18 : rg (1) (8) x_15 := by have ha := h_13; have hb_ := hx_15; simp only [rg, fa_lt, fa_le, fa_eq] at ha hb_ c_16; simp only [rg]; omega
            refine lv_iload_n hx hb dX8_ruled_42 rfl (lv_at hl 3 rfl) ?_
            refine lv_if_lt (tgt := 51) hx hb dX8_ruled_43 (by decide) (fun c_19 => ?_) (fun c_19 => ?_)
            · skip
              have h_20 : rg (-2147483648) (-1) p1 := by have ha := (rg_any p1); have hb_ := (rg_k (x := 0) (c := 0) (by decide)); simp only [rg, fa_lt, fa_le, fa_eq, (by decide : (0 : Int32).toInt = 0)] at ha hb_ c_19; simp only [rg]; omega
              refine lv_iconst (v := (-1)) hx hb dX8_ruled_51 (by decide) ?_
              have hP9 := hP.sub (ws' := [(h0, .inr (8, [.ref h1, .int a0, .ref h2, .ref h17, .ref h27, .ref h31, .ref h44, .ref h51, .ref h53, .ref h55, .ref h62, .ref h69])), (h17, .inr (6, [.ref h18, .ref h19, .ref h20, .ref h21, .ref h22, .ref h23, .int a18, .int a19, .int a20, .int a21])), (h27, .inr (4, [.ref h28, .ref h29, .int a23, .int a24, .int a25, .int a26]))]) [0, 1, 2] rfl
              have hD9 := hD.sub (ws' := [(h0, .inr (8, [.ref h1, .int a0, .ref h2, .ref h17, .ref h27, .ref h31, .ref h44, .ref h51, .ref h53, .ref h55, .ref h62, .ref h69])), (h17, .inr (6, [.ref h18, .ref h19, .ref h20, .ref h21, .ref h22, .ref h23, .int a18, .int a19, .int a20, .int a21])), (h27, .inr (4, [.ref h28, .ref h29, .int a23, .int a24, .int a25, .int a26]))]) [0, 1, 2] (by decide) rfl
              exact W.iret (v := (-1)) hx hb hr (fun t ht hW => ⟨⟨(-1), (), rfl, (rg_mono (rg_k (x := (-1)) (c := -1) (by decide)) (by decide) (by decide)), ⟨by rw [ht]; exact hP9, hD9⟩⟩, hS.F ht⟩) hS.2.2 dX8_ruled_52
            · skip
              have h_21 : rg (0) (2147483647) p1 := by have ha := (rg_any p1); have hb_ := (rg_k (x := 0) (c := 0) (by decide)); simp only [rg, fa_lt, fa_le, fa_eq, (by decide : (0 : Int32).toInt = 0)] at ha hb_ c_19; simp only [rg]; omega
              refine lv_iload_n hx hb dX8_ruled_46 rfl (lv_at hl 3 rfl) ?_
              refine lv_iload_n hx hb dX8_ruled_47 rfl (lv_at hl 0 rfl) ?_
              refine lv_icmp_lt (tgt := 53) hx hb dX8_ruled_48 (by decide) (fun c_22 => ?_) (fun c_22 => ?_)
              · skip
                have h_23 : rg (0) (8) p1 := by have ha := h_21; have hb_ := h_6; simp only [rg, fa_lt, fa_le, fa_eq] at ha hb_ c_22; simp only [rg]; omega
                refine lv_iload_n hx hb dX8_ruled_53 rfl (lv_at hl 3 rfl) ?_
                refine lv_if_ne (tgt := 61) hx hb dX8_ruled_54 (by decide) (fun c_24 => ?_) (fun c_24 => ?_)
                · skip
                  have h_25 : rg (1) (8) p1 := by have ha := h_23; have hb_ := (rg_k (x := 0) (c := 0) (by decide)); simp only [rg, fa_lt, fa_le, fa_eq, (by decide : (0 : Int32).toInt = 0)] at ha hb_ c_24; simp only [rg]; omega
                  refine lv_iload_n hx hb dX8_ruled_61 rfl (lv_at hl 3 rfl) ?_
                  refine lv_iconst (v := 2) hx hb dX8_ruled_62 (by decide) ?_
                  refine lv_irem hx hb dX8_ruled_63 (by decide) ?_
                  refine lv_topi (fun x_26 ex_26 => ?_)
                  have hx_26 : rg (0) (1) x_26 := by rw [ex_26]; exact rg_mono (rg_rem (b := 8) (d := 2) (rg_mono h_25 (by decide) (by decide)) (rg_mono (rg_k (x := 2) (c := 2) (by decide)) (by decide) (by decide))) (by decide) (by decide)
                  refine lv_if_ne (tgt := 75) hx hb dX8_ruled_64 (by decide) (fun c_27 => ?_) (fun c_27 => ?_)
                  · skip
                    have h_28 : rg (1) (1) x_26 := by have ha := hx_26; have hb_ := (rg_k (x := 0) (c := 0) (by decide)); simp only [rg, fa_lt, fa_le, fa_eq, (by decide : (0 : Int32).toInt = 0)] at ha hb_ c_27; simp only [rg]; omega
                    refine lv_iload_n hx hb dX8_ruled_75 rfl (lv_at hl 2 rfl) ?_
                    refine lv_iload_n hx hb dX8_ruled_76 rfl (lv_at hl 3 rfl) ?_
                    refine lv_iconst (v := 2) hx hb dX8_ruled_77 (by decide) ?_
                    refine lv_idiv hx hb dX8_ruled_78 (by decide) ?_
                    refine lv_topi (fun x_29 ex_29 => ?_)
                    have hx_29 : rg (0) (8) x_29 := by rw [ex_29]; exact rg_mono (rg_div (b := 8) (d := 2) (rg_mono h_25 (by decide) (by decide)) (rg_mono (rg_k (x := 2) (c := 2) (by decide)) (by decide) (by decide))) (by decide) (by decide)
                    refine lv_isub hx hb dX8_ruled_79 ?_
                    refine lv_topi (fun x_30 ex_30 => ?_)
                    have hx_30 : rg (-8) (7) x_30 := by rw [ex_30]; exact rg_mono (rg_sub h_17 hx_29 (by decide) (by decide)) (by decide) (by decide)
                    have qx_30 : x_30.toInt = p0.toInt - x_29.toInt := by rw [ex_30]; exact rg_subQ h_17 hx_29 (by decide) (by decide)
                    refine lv_iload_n hx hb dX8_ruled_80 rfl (lv_at hl 0 rfl) ?_
                    refine lv_iconst (v := 1) hx hb dX8_ruled_81 (by decide) ?_
                    refine lv_isub hx hb dX8_ruled_82 ?_
                    refine tp_v (.int x_14) (congrArg Value.int (ex_14.symm)) ?_
                    have hPc := hP.sub (ws' := []) [] rfl
                    have hDc := hD.sub (ws' := []) [] (by decide) rfl
                    have hFc := va_free (wc := []) hD hS hA [] rfl
                    refine va_calli (va_runS (As := [.int x_30, .int x_14]) (rest := []) ⟨hx, hb, hml, hown, hts⟩ (c_s_J9_floorMod_7cf53 l dC dI cB cI cJ cZ cP x_30 x_14 (rg_mono hx_14 (by decide) (by decide)) H.size) (va_cwS 2 hts (gd_S (List.mem_of_getElem? (i := 5) rfl) (List.mem_of_getElem? (i := 6) rfl) (List.mem_of_getElem? (i := 7) rfl) (gd_mono k_s_J9_floorMod_7cf53 (fun _ h => List.mem_cons_of_mem _ (List.mem_append_right _ (List.mem_append_right _ (List.mem_append_right _ (List.mem_append_right _ (List.mem_append_left _ h)))))))) rfl rfl rfl (by decide +kernel) ⟨Nat.le_of_ble_eq_true rfl, Nat.le_of_ble_eq_true rfl⟩) ⟨fun a U g mk q => by obtain ⟨q0, q1, qP, qK, qD⟩ := q; exact ⟨q0, q1, qP, va_K.moved (u := U) (U := U.calling g mk a) (Vm.Alike.refl U.vm) qK, qD⟩, fun U hU hW => ⟨rfl, by rw [hU], by rw [hU]; exact hPc, va_K.moved hW.alike hK, hDc.weaken (fun _ _ _ _ => trivial)⟩⟩ rfl rfl hl.1 rfl (lv_room (Nat.le_of_ble_eq_true rfl)) dX8_ruled_83 ⟨Nat.le_of_ble_eq_true rfl, Nat.le_of_ble_eq_true rfl⟩) hS (fun q _ h => hFc q h) hFc (fun r_31 u t H1 locs ht hvm hw hB hz1 hk1 hS => ?_)
                    obtain ⟨hP1, hD1⟩ := hB
                    rw [ht] at hP1
                    obtain ⟨hP, hD⟩ := va_join (wr := [(h0, .inr (8, [.ref h1, .int a0, .ref h2, .ref h17, .ref h27, .ref h31, .ref h44, .ref h51, .ref h53, .ref h55, .ref h62, .ref h69])), (h17, .inr (6, [.ref h18, .ref h19, .ref h20, .ref h21, .ref h22, .ref h23, .int a18, .int a19, .int a20, .int a21])), (h27, .inr (4, [.ref h28, .ref h29, .int a23, .int a24, .int a25, .int a26]))]) (w1 := []) hP hD [] [0, 1, 2] rfl rfl (by decide) (by decide) hk1 hFc hP1 hD1
                    generalize H1 = H at hP hS ⊢
                    have hP : va_P (dC, dI) vwCl [(h0, .inr (8, [.ref h1, .int a0, .ref h2, .ref h17, .ref h27, .ref h31, .ref h44, .ref h51, .ref h53, .ref h55, .ref h62, .ref h69])), (h17, .inr (6, [.ref h18, .ref h19, .ref h20, .ref h21, .ref h22, .ref h23, .int a18, .int a19, .int a20, .int a21])), (h27, .inr (4, [.ref h28, .ref h29, .int a23, .int a24, .int a25, .int a26]))] H := hP
                    have hD : va_D A [(h0, .inr (8, [.ref h1, .int a0, .ref h2, .ref h17, .ref h27, .ref h31, .ref h44, .ref h51, .ref h53, .ref h55, .ref h62, .ref h69])), (h17, .inr (6, [.ref h18, .ref h19, .ref h20, .ref h21, .ref h22, .ref h23, .int a18, .int a19, .int a20, .int a21])), (h27, .inr (4, [.ref h28, .ref h29, .int a23, .int a24, .int a25, .int a26]))] := hD
                    have hr_31 : rg (-7) (15) r_31 := hw
                    have hP9 := hP.sub (ws' := [(h0, .inr (8, [.ref h1, .int a0, .ref h2, .ref h17, .ref h27, .ref h31, .ref h44, .ref h51, .ref h53, .ref h55, .ref h62, .ref h69])), (h17, .inr (6, [.ref h18, .ref h19, .ref h20, .ref h21, .ref h22, .ref h23, .int a18, .int a19, .int a20, .int a21])), (h27, .inr (4, [.ref h28, .ref h29, .int a23, .int a24, .int a25, .int a26]))]) [0, 1, 2] rfl
                    have hD9 := hD.sub (ws' := [(h0, .inr (8, [.ref h1, .int a0, .ref h2, .ref h17, .ref h27, .ref h31, .ref h44, .ref h51, .ref h53, .ref h55, .ref h62, .ref h69])), (h17, .inr (6, [.ref h18, .ref h19, .ref h20, .ref h21, .ref h22, .ref h23, .int a18, .int a19, .int a20, .int a21])), (h27, .inr (4, [.ref h28, .ref h29, .int a23, .int a24, .int a25, .int a26]))]) [0, 1, 2] (by decide) rfl
                    exact W.iret (v := r_31) hx hb hr (fun t ht hW => ⟨⟨r_31, (), rfl, (rg_mono hr_31 (by decide) (by decide)), ⟨by rw [ht]; exact hP9, hD9⟩⟩, hS.F ht⟩) hS.2.2 dX8_ruled_86
                  · skip
                    have h_32 : rg (0) (0) x_26 := by have ha := hx_26; have hb_ := (rg_k (x := 0) (c := 0) (by decide)); simp only [rg, fa_lt, fa_le, fa_eq, (by decide : (0 : Int32).toInt = 0)] at ha hb_ c_27; simp only [rg]; omega
                    refine lv_iload_n hx hb dX8_ruled_67 rfl (lv_at hl 2 rfl) ?_
                    refine lv_iload_n hx hb dX8_ruled_68 rfl (lv_at hl 3 rfl) ?_
                    refine lv_iconst (v := 2) hx hb dX8_ruled_69 (by decide) ?_
                    refine lv_idiv hx hb dX8_ruled_70 (by decide) ?_
                    refine lv_topi (fun x_33 ex_33 => ?_)
                    have hx_33 : rg (0) (8) x_33 := by rw [ex_33]; exact rg_mono (rg_div (b := 8) (d := 2) (rg_mono h_25 (by decide) (by decide)) (rg_mono (rg_k (x := 2) (c := 2) (by decide)) (by decide) (by decide))) (by decide) (by decide)
                    refine lv_iadd hx hb dX8_ruled_71 ?_
                    refine lv_topi (fun x_34 ex_34 => ?_)
                    have hx_34 : rg (0) (15) x_34 := by rw [ex_34]; exact rg_mono (rg_add h_17 hx_33 (by decide) (by decide)) (by decide) (by decide)
                    have qx_34 : x_34.toInt = p0.toInt + x_33.toInt := by rw [ex_34]; exact rg_addQ h_17 hx_33 (by decide) (by decide)
                    refine lv_goto (tgt := 80) hx hb dX8_ruled_72 (by decide) ?_
                    refine lv_iload_n hx hb dX8_ruled_80 rfl (lv_at hl 0 rfl) ?_
                    refine lv_iconst (v := 1) hx hb dX8_ruled_81 (by decide) ?_
                    refine lv_isub hx hb dX8_ruled_82 ?_
                    refine tp_v (.int x_14) (congrArg Value.int (ex_14.symm)) ?_
                    have hPc := hP.sub (ws' := []) [] rfl
                    have hDc := hD.sub (ws' := []) [] (by decide) rfl
                    have hFc := va_free (wc := []) hD hS hA [] rfl
                    refine va_calli (va_runS (As := [.int x_34, .int x_14]) (rest := []) ⟨hx, hb, hml, hown, hts⟩ (c_s_J9_floorMod_7cf53 l dC dI cB cI cJ cZ cP x_34 x_14 (rg_mono hx_14 (by decide) (by decide)) H.size) (va_cwS 2 hts (gd_S (List.mem_of_getElem? (i := 5) rfl) (List.mem_of_getElem? (i := 6) rfl) (List.mem_of_getElem? (i := 7) rfl) (gd_mono k_s_J9_floorMod_7cf53 (fun _ h => List.mem_cons_of_mem _ (List.mem_append_right _ (List.mem_append_right _ (List.mem_append_right _ (List.mem_append_right _ (List.mem_append_left _ h)))))))) rfl rfl rfl (by decide +kernel) ⟨Nat.le_of_ble_eq_true rfl, Nat.le_of_ble_eq_true rfl⟩) ⟨fun a U g mk q => by obtain ⟨q0, q1, qP, qK, qD⟩ := q; exact ⟨q0, q1, qP, va_K.moved (u := U) (U := U.calling g mk a) (Vm.Alike.refl U.vm) qK, qD⟩, fun U hU hW => ⟨rfl, by rw [hU], by rw [hU]; exact hPc, va_K.moved hW.alike hK, hDc.weaken (fun _ _ _ _ => trivial)⟩⟩ rfl rfl hl.1 rfl (lv_room (Nat.le_of_ble_eq_true rfl)) dX8_ruled_83 ⟨Nat.le_of_ble_eq_true rfl, Nat.le_of_ble_eq_true rfl⟩) hS (fun q _ h => hFc q h) hFc (fun r_35 u t H1 locs ht hvm hw hB hz1 hk1 hS => ?_)
                    obtain ⟨hP1, hD1⟩ := hB
                    rw [ht] at hP1
                    obtain ⟨hP, hD⟩ := va_join (wr := [(h0, .inr (8, [.ref h1, .int a0, .ref h2, .ref h17, .ref h27, .ref h31, .ref h44, .ref h51, .ref h53, .ref h55, .ref h62, .ref h69])), (h17, .inr (6, [.ref h18, .ref h19, .ref h20, .ref h21, .ref h22, .ref h23, .int a18, .int a19, .int a20, .int a21])), (h27, .inr (4, [.ref h28, .ref h29, .int a23, .int a24, .int a25, .int a26]))]) (w1 := []) hP hD [] [0, 1, 2] rfl rfl (by decide) (by decide) hk1 hFc hP1 hD1
                    generalize H1 = H at hP hS ⊢
                    have hP : va_P (dC, dI) vwCl [(h0, .inr (8, [.ref h1, .int a0, .ref h2, .ref h17, .ref h27, .ref h31, .ref h44, .ref h51, .ref h53, .ref h55, .ref h62, .ref h69])), (h17, .inr (6, [.ref h18, .ref h19, .ref h20, .ref h21, .ref h22, .ref h23, .int a18, .int a19, .int a20, .int a21])), (h27, .inr (4, [.ref h28, .ref h29, .int a23, .int a24, .int a25, .int a26]))] H := hP
                    have hD : va_D A [(h0, .inr (8, [.ref h1, .int a0, .ref h2, .ref h17, .ref h27, .ref h31, .ref h44, .ref h51, .ref h53, .ref h55, .ref h62, .ref h69])), (h17, .inr (6, [.ref h18, .ref h19, .ref h20, .ref h21, .ref h22, .ref h23, .int a18, .int a19, .int a20, .int a21])), (h27, .inr (4, [.ref h28, .ref h29, .int a23, .int a24, .int a25, .int a26]))] := hD
                    have hr_35 : rg (-7) (15) r_35 := hw
                    have hP9 := hP.sub (ws' := [(h0, .inr (8, [.ref h1, .int a0, .ref h2, .ref h17, .ref h27, .ref h31, .ref h44, .ref h51, .ref h53, .ref h55, .ref h62, .ref h69])), (h17, .inr (6, [.ref h18, .ref h19, .ref h20, .ref h21, .ref h22, .ref h23, .int a18, .int a19, .int a20, .int a21])), (h27, .inr (4, [.ref h28, .ref h29, .int a23, .int a24, .int a25, .int a26]))]) [0, 1, 2] rfl
                    have hD9 := hD.sub (ws' := [(h0, .inr (8, [.ref h1, .int a0, .ref h2, .ref h17, .ref h27, .ref h31, .ref h44, .ref h51, .ref h53, .ref h55, .ref h62, .ref h69])), (h17, .inr (6, [.ref h18, .ref h19, .ref h20, .ref h21, .ref h22, .ref h23, .int a18, .int a19, .int a20, .int a21])), (h27, .inr (4, [.ref h28, .ref h29, .int a23, .int a24, .int a25, .int a26]))]) [0, 1, 2] (by decide) rfl
                    exact W.iret (v := r_35) hx hb hr (fun t ht hW => ⟨⟨r_35, (), rfl, (rg_mono hr_35 (by decide) (by decide)), ⟨by rw [ht]; exact hP9, hD9⟩⟩, hS.F ht⟩) hS.2.2 dX8_ruled_86
                · skip
                  have h_36 : rg (0) (0) p1 := by have ha := h_23; have hb_ := (rg_k (x := 0) (c := 0) (by decide)); simp only [rg, fa_lt, fa_le, fa_eq, (by decide : (0 : Int32).toInt = 0)] at ha hb_ c_24; simp only [rg]; omega
                  refine lv_iload_n hx hb dX8_ruled_57 rfl (lv_at hl 0 rfl) ?_
                  refine lv_iconst (v := 1) hx hb dX8_ruled_58 (by decide) ?_
                  refine lv_isub hx hb dX8_ruled_59 ?_
                  refine tp_v (.int x_14) (congrArg Value.int (ex_14.symm)) ?_
                  have hP9 := hP.sub (ws' := [(h0, .inr (8, [.ref h1, .int a0, .ref h2, .ref h17, .ref h27, .ref h31, .ref h44, .ref h51, .ref h53, .ref h55, .ref h62, .ref h69])), (h17, .inr (6, [.ref h18, .ref h19, .ref h20, .ref h21, .ref h22, .ref h23, .int a18, .int a19, .int a20, .int a21])), (h27, .inr (4, [.ref h28, .ref h29, .int a23, .int a24, .int a25, .int a26]))]) [0, 1, 2] rfl
                  have hD9 := hD.sub (ws' := [(h0, .inr (8, [.ref h1, .int a0, .ref h2, .ref h17, .ref h27, .ref h31, .ref h44, .ref h51, .ref h53, .ref h55, .ref h62, .ref h69])), (h17, .inr (6, [.ref h18, .ref h19, .ref h20, .ref h21, .ref h22, .ref h23, .int a18, .int a19, .int a20, .int a21])), (h27, .inr (4, [.ref h28, .ref h29, .int a23, .int a24, .int a25, .int a26]))]) [0, 1, 2] (by decide) rfl
                  exact W.iret (v := x_14) hx hb hr (fun t ht hW => ⟨⟨x_14, (), rfl, (rg_mono hx_14 (by decide) (by decide)), ⟨by rw [ht]; exact hP9, hD9⟩⟩, hS.F ht⟩) hS.2.2 dX8_ruled_60
              · skip
                have h_37 : rg (3) (2147483647) p1 := by have ha := h_21; have hb_ := h_6; simp only [rg, fa_lt, fa_le, fa_eq] at ha hb_ c_22; simp only [rg]; omega
                refine lv_iconst (v := (-1)) hx hb dX8_ruled_51 (by decide) ?_
                have hP9 := hP.sub (ws' := [(h0, .inr (8, [.ref h1, .int a0, .ref h2, .ref h17, .ref h27, .ref h31, .ref h44, .ref h51, .ref h53, .ref h55, .ref h62, .ref h69])), (h17, .inr (6, [.ref h18, .ref h19, .ref h20, .ref h21, .ref h22, .ref h23, .int a18, .int a19, .int a20, .int a21])), (h27, .inr (4, [.ref h28, .ref h29, .int a23, .int a24, .int a25, .int a26]))]) [0, 1, 2] rfl
                have hD9 := hD.sub (ws' := [(h0, .inr (8, [.ref h1, .int a0, .ref h2, .ref h17, .ref h27, .ref h31, .ref h44, .ref h51, .ref h53, .ref h55, .ref h62, .ref h69])), (h17, .inr (6, [.ref h18, .ref h19, .ref h20, .ref h21, .ref h22, .ref h23, .int a18, .int a19, .int a20, .int a21])), (h27, .inr (4, [.ref h28, .ref h29, .int a23, .int a24, .int a25, .int a26]))]) [0, 1, 2] (by decide) rfl
                exact W.iret (v := (-1)) hx hb hr (fun t ht hW => ⟨⟨(-1), (), rfl, (rg_mono (rg_k (x := (-1)) (c := -1) (by decide)) (by decide) (by decide)), ⟨by rw [ht]; exact hP9, hD9⟩⟩, hS.F ht⟩) hS.2.2 dX8_ruled_52
def v_s_X3_copy : List Cond := Cond.code yX3_copy cX3_copy 2 none :: ([Cond.fieldLink RX3 9 "MayRings$Order" "houses" "[I", Cond.methodLink RX3 19 arraycopyName, Cond.native arraycopyName, Cond.static arraycopyName, Cond.initialized RJ10, Cond.fieldLink RX3 15 "MayRings$Order" "size" "I"] ++ (wsX30 ++ ([])))
theorem k_s_X3_copy : GoodIn lw_tbl v_s_X3_copy := gd_c (List.mem_of_getElem? (i := 1126) (by decide +kernel)) rfl (goodIn_app (gd_c (List.mem_of_getElem? (i := 360) (by decide +kernel)) rfl (gd_c (List.mem_of_getElem? (i := 1127) (by decide +kernel)) rfl (gd_c (List.mem_of_getElem? (i := 1129) (by decide +kernel)) rfl (gd_c (List.mem_of_getElem? (i := 1128) (by decide +kernel)) rfl (gd_c (List.mem_of_getElem? (i := 148) (by decide +kernel)) rfl (gd_c (List.mem_of_getElem? (i := 363) (by decide +kernel)) rfl (gd_nil))))))) (goodIn_app kfX3 (gd_nil)))
set_option maxHeartbeats 2000000 in
set_option maxRecDepth 100000 in
theorem c_s_X3_copy (l : Launch) (dC : Nat → ClassId) (dI : Nat → Nat → Nat) (cB cI cJ cZ cP : ClassId) (h0 : Nat) (h1 : Nat) (g0 : Nat → Int32) (hg0 : rgA (0) (8) g0) (a0 : Int32) (h2 : Nat) (h3 : Nat) (g1 : Nat → Int32) (hg1 : rgA (0) (8) g1) (a1 : Int32) (sz : Nat) : Met l yX3_copy v_s_X3_copy ({ frames := 1, cells := 0, slots := 0, locals := 80 }) (va_Pc [.ref h0, .ref h2] (fun U => U.heap.size = sz ∧ va_P (dC, dI) vwCl [(h0, .inr (3, [.ref h1, .int a0])), (h1, .inl (cI, 9, .inl g0)), (h2, .inr (3, [.ref h3, .int a1])), (h3, .inl (cI, 9, .inl g1))] U.heap ∧ va_K (dC, dI) vwCl (ty5 cB cI cJ cZ cP) U ∧ va_D (fun _ => True) [(h0, .inr (3, [.ref h1, .int a0])), (h1, .inl (cI, 9, .inl g0)), (h2, .inr (3, [.ref h3, .int a1])), (h3, .inl (cI, 9, .inl g1))])) (va_Qv (fun _ : Unit => True) (fun _ t => ∃ (z0 : Nat → Int32), rgA (0) (8) z0 ∧ va_P (dC, dI) vwCl [(h0, .inr (3, [.ref h1, .int a1])), (h1, .inl (cI, 9, .inl z0)), (h2, .inr (3, [.ref h3, .int a1])), (h3, .inl (cI, 9, .inl g1))] t.heap ∧ va_D (va_A [(h0, .inr (3, [.ref h1, .int a0])), (h1, .inl (cI, 9, .inl g0)), (h2, .inr (3, [.ref h3, .int a1])), (h3, .inl (cI, 9, .inl g1))] sz) [(h0, .inr (3, [.ref h1, .int a1])), (h1, .inl (cI, 9, .inl z0)), (h2, .inr (3, [.ref h3, .int a1])), (h3, .inl (cI, 9, .inl g1))]) (va_A [(h0, .inr (3, [.ref h1, .int a0])), (h1, .inl (cI, 9, .inl g0)), (h2, .inr (3, [.ref h3, .int a1])), (h3, .inl (cI, 9, .inl g1))] sz)) 0 0 (va_A [(h0, .inr (3, [.ref h1, .int a0])), (h1, .inl (cI, 9, .inl g0)), (h2, .inr (3, [.ref h3, .int a1])), (h3, .inl (cI, 9, .inl g1))] sz) := by
  refine Met.ofW (cc := cX3_copy) (maxL := 2) (ret := none) (by decide) rfl ?_
  intro p e s m args below meth c s₁ B hml hv
  obtain ⟨rfl, hsz, hP, hK, hD0⟩ := hv
  have hx := B.exec
  have hb := B.bytes
  have hr := B.returns
  have hts := atoms_spec (ws := v_s_X3_copy) B.pre
  have hown : s.vm.findClass RX3 = some m.cls := findClass_of_methodNamed B.named
  have hlocks := B.notSynchronized
  have hinX3 : ∀ w ∈ wsX30, w ∈ v_s_X3_copy := fun _ h => List.mem_cons_of_mem _ (List.mem_append_right _ (List.mem_append_left _ h))
  subst hsz
  have hD := hD0.self (sz := s.heap.size)
  generalize hAe : va_A [(h0, .inr (3, [.ref h1, .int a0])), (h1, .inl (cI, 9, .inl g0)), (h2, .inr (3, [.ref h3, .int a1])), (h3, .inl (cI, 9, .inl g1))] s.heap.size = A at hD ⊢
  have hA : ∀ q : Nat, s.heap.size ≤ q → A q := fun q h => by rw [← hAe]; exact Or.inr h
  have hP : va_P (dC, dI) vwCl [(h0, .inr (3, [.ref h1, .int a0])), (h1, .inl (cI, 9, .inl g0)), (h2, .inr (3, [.ref h3, .int a1])), (h3, .inl (cI, 9, .inl g1))] s.heap := hP
  have hl := lv_entry ([.ref h0, .ref h2]) (n := 2) (Nat.le_of_ble_eq_true rfl)
  rw [lg_entry_eq]
  generalize (lg_sl ([.ref h0, .ref h2]) ++ List.replicate (2 - (lg_sl ([.ref h0, .ref h2])).length) Slot.unset).toArray = ls at hl ⊢
  have hl : lv_has ls 2 [(0, .ref h0), (1, .ref h2)] := hl
  refine W_gen (A := A) hP (fun H locs hP hS => ?_)
  refine lv_aload_n hx hb dX3_copy_0 rfl (lv_at hl 1 rfl) ?_
  refine va_get (D := (dC, dI)) (ci := 3) (v := .ref h3) (C := RX3) (T := TX3) (N := 2) hx hb hts hinX3 hown hK hP 2 rfl rfl 0 (by decide) (hts (.fieldLink RX3 9 "MayRings$Order" "houses" "[I") (List.mem_of_getElem? (i := 1) rfl)) (fun _ h9 => h9) rfl dX3_copy_1 ?_
  refine lv_iconst (v := 0) hx hb dX3_copy_4 (by decide) ?_
  refine lv_aload_n hx hb dX3_copy_5 rfl (lv_at hl 0 rfl) ?_
  refine va_get (D := (dC, dI)) (ci := 3) (v := .ref h1) (C := RX3) (T := TX3) (N := 2) hx hb hts hinX3 hown hK hP 0 rfl rfl 0 (by decide) (hts (.fieldLink RX3 9 "MayRings$Order" "houses" "[I") (List.mem_of_getElem? (i := 1) rfl)) (fun _ h9 => h9) rfl dX3_copy_6 ?_
  refine lv_iconst (v := 0) hx hb dX3_copy_9 (by decide) ?_
  refine lv_bipush (v := 9) hx hb dX3_copy_10 (by decide) ?_
  refine va_copyi hx hb (by rw [hml]; exact hl.1.symm) hown (hts (.methodLink RX3 19 arraycopyName) (List.mem_of_getElem? (i := 2) rfl)) (hts (.native arraycopyName) (List.mem_of_getElem? (i := 3) rfl)) (hts (.static arraycopyName) (List.mem_of_getElem? (i := 4) rfl)) (hts (.initialized RJ10) (List.mem_of_getElem? (i := 5) rfl)) hK hP hD hS 3 1 1 1 rfl rfl rfl rfl rfl (by decide) (by decide) (by decide) (by decide) (by decide) (fun _ _ => rfl) (Nat.le_of_ble_eq_true rfl) (Nat.le_of_ble_eq_true rfl) dX3_copy_12 (fun H locs hP hD hS => ?_)
  obtain ⟨f_1, ef_1⟩ : ∃ f : Nat → Int32, f = va_cpy g1 g0 (0 : Int32).toNatClampNeg (0 : Int32).toNatClampNeg (9 : Int32).toNatClampNeg := ⟨_, rfl⟩
  rw [← ef_1] at hP hD
  have hf_1 : rgA (0) (8) f_1 := by rw [ef_1]; exact rgA_cpy hg1 hg0
  clear ef_1
  have hP : va_P (dC, dI) vwCl [(h0, .inr (3, [.ref h1, .int a0])), (h1, .inl (cI, 9, .inl f_1)), (h2, .inr (3, [.ref h3, .int a1])), (h3, .inl (cI, 9, .inl g1))] H := hP
  have hD : va_D A [(h0, .inr (3, [.ref h1, .int a0])), (h1, .inl (cI, 9, .inl f_1)), (h2, .inr (3, [.ref h3, .int a1])), (h3, .inl (cI, 9, .inl g1))] := hD
  refine lv_aload_n hx hb dX3_copy_15 rfl (lv_at hl 0 rfl) ?_
  refine lv_aload_n hx hb dX3_copy_16 rfl (lv_at hl 1 rfl) ?_
  refine va_get (D := (dC, dI)) (ci := 3) (v := .int a1) (C := RX3) (T := TX3) (N := 2) hx hb hts hinX3 hown hK hP 2 rfl rfl 1 (by decide) (hts (.fieldLink RX3 15 "MayRings$Order" "size" "I") (List.mem_of_getElem? (i := 6) rfl)) (fun _ h9 => h9) rfl dX3_copy_17 ?_
  refine va_put (D := (dC, dI)) (ci := 3) (v := .int a1) (ty := .int) (C := RX3) (T := TX3) (N := 2) hx hb hts hinX3 tyX3 tyX3_ok nmX3 hown hK hP hD hS 0 rfl rfl 1 (by decide) (hts (.fieldLink RX3 15 "MayRings$Order" "size" "I") (List.mem_of_getElem? (i := 6) rfl)) (fun _ h9 => h9) rfl (by decide +kernel) (rfl) (rfl) (Nat.le_of_ble_eq_true rfl) dX3_copy_20 (fun H locs hP hD hS => ?_)
  have hP : va_P (dC, dI) vwCl [(h0, .inr (3, [.ref h1, .int a1])), (h1, .inl (cI, 9, .inl f_1)), (h2, .inr (3, [.ref h3, .int a1])), (h3, .inl (cI, 9, .inl g1))] H := hP
  have hD : va_D A [(h0, .inr (3, [.ref h1, .int a1])), (h1, .inl (cI, 9, .inl f_1)), (h2, .inr (3, [.ref h3, .int a1])), (h3, .inl (cI, 9, .inl g1))] := hD
  have hP9 := hP.sub (ws' := [(h0, .inr (3, [.ref h1, .int a1])), (h1, .inl (cI, 9, .inl f_1)), (h2, .inr (3, [.ref h3, .int a1])), (h3, .inl (cI, 9, .inl g1))]) [0, 1, 2, 3] rfl
  have hD9 := hD.sub (ws' := [(h0, .inr (3, [.ref h1, .int a1])), (h1, .inl (cI, 9, .inl f_1)), (h2, .inr (3, [.ref h3, .int a1])), (h3, .inl (cI, 9, .inl g1))]) [0, 1, 2, 3] (by decide) rfl
  exact W.vret hx hb hr (fun t ht hW => ⟨⟨(), rfl, trivial, ⟨f_1, hf_1, by rw [ht]; exact hP9, hD9⟩⟩, hS.F ht⟩) hS.2.2 dX3_copy_23
