def v_X8_putOnTape : List Cond := Cond.code yX8_putOnTape cX8_putOnTape 3 none :: ([Cond.fieldLink RX8 13 "MayRings" "tapeLength" "I", Cond.fieldLink RX8 9 "MayRings" "tape" "[B"] ++ (wsX80 ++ ([])))
theorem k_X8_putOnTape : GoodIn lw_tbl v_X8_putOnTape := gd_c (List.mem_of_getElem? (i := 575) (by decide +kernel)) rfl (goodIn_app (gd_c (List.mem_of_getElem? (i := 532) (by decide +kernel)) rfl (gd_c (List.mem_of_getElem? (i := 531) (by decide +kernel)) rfl (gd_nil))) (goodIn_app kfX8 (gd_nil)))
set_option maxHeartbeats 600000 in
set_option maxRecDepth 100000 in
theorem c_X8_putOnTape (l : Launch) (dC : Nat → ClassId) (dI : Nat → Nat → Nat) (cB cI cJ cZ cP : ClassId) (h0 : Nat) (p0 : Int32) (h1 : Nat) (h2 : Nat) (h3 : Nat) (h4 : Nat) (h5 : Nat) (h6 : Nat) (h7 : Nat) (h8 : Nat) (h9 : Nat) (h10 : Nat) (h11 : Nat) (sz : Nat) : Met l yX8_putOnTape v_X8_putOnTape ({ frames := 0, cells := 0, slots := 0, locals := 0 }) (va_Pc [.ref h0, .int p0] (fun U => U.heap.size = sz ∧ va_P (dC, dI) vwCl [(h0, .inr (8, [.ref h1, .int 0, .ref h2, .ref h3, .ref h4, .ref h5, .ref h6, .ref h7, .ref h8, .ref h9, .ref h10, .ref h11])), (h1, .inl (cB, 1600, .inl (fun _ => 0)))] U.heap ∧ va_K (dC, dI) vwCl (ty5 cB cI cJ cZ cP) U ∧ va_D (fun _ => True) [(h0, .inr (8, [.ref h1, .int 0, .ref h2, .ref h3, .ref h4, .ref h5, .ref h6, .ref h7, .ref h8, .ref h9, .ref h10, .ref h11])), (h1, .inl (cB, 1600, .inl (fun _ => 0)))])) (va_Qv (fun _ : Unit => True) (fun _ t => ∃ (z1000 : Nat → Int32), va_P (dC, dI) vwCl [(h0, .inr (8, [.ref h1, .int 4, .ref h2, .ref h3, .ref h4, .ref h5, .ref h6, .ref h7, .ref h8, .ref h9, .ref h10, .ref h11])), (h1, .inl (cB, 1600, .inl z1000))] t.heap ∧ va_D (va_A [(h0, .inr (8, [.ref h1, .int 0, .ref h2, .ref h3, .ref h4, .ref h5, .ref h6, .ref h7, .ref h8, .ref h9, .ref h10, .ref h11])), (h1, .inl (cB, 1600, .inl (fun _ => 0)))] sz) [(h0, .inr (8, [.ref h1, .int 4, .ref h2, .ref h3, .ref h4, .ref h5, .ref h6, .ref h7, .ref h8, .ref h9, .ref h10, .ref h11])), (h1, .inl (cB, 1600, .inl z1000))]) (va_A [(h0, .inr (8, [.ref h1, .int 0, .ref h2, .ref h3, .ref h4, .ref h5, .ref h6, .ref h7, .ref h8, .ref h9, .ref h10, .ref h11])), (h1, .inl (cB, 1600, .inl (fun _ => 0)))] sz)) 0 0 (va_A [(h0, .inr (8, [.ref h1, .int 0, .ref h2, .ref h3, .ref h4, .ref h5, .ref h6, .ref h7, .ref h8, .ref h9, .ref h10, .ref h11])), (h1, .inl (cB, 1600, .inl (fun _ => 0)))] sz) := by
  refine Met.ofW (cc := cX8_putOnTape) (maxL := 3) (ret := none) (by decide) rfl ?_
  intro p e s m args below meth c s₁ B hml hv
  obtain ⟨rfl, hsz, hP, hK, hD0⟩ := hv
  have hx := B.exec
  have hb := B.bytes
  have hr := B.returns
  have hts := atoms_spec (ws := v_X8_putOnTape) B.pre
  have hown : s.vm.findClass RX8 = some m.cls := findClass_of_methodNamed B.named
  have hlocks := B.notSynchronized
  have hinX8 : ∀ w ∈ wsX80, w ∈ v_X8_putOnTape := fun _ h => List.mem_cons_of_mem _ (List.mem_append_right _ (List.mem_append_left _ h))
  subst hsz
  have hD := hD0.self (sz := s.heap.size)
  generalize hAe : va_A [(h0, .inr (8, [.ref h1, .int 0, .ref h2, .ref h3, .ref h4, .ref h5, .ref h6, .ref h7, .ref h8, .ref h9, .ref h10, .ref h11])), (h1, .inl (cB, 1600, .inl (fun _ => 0)))] s.heap.size = A at hD ⊢
  have hA : ∀ q : Nat, s.heap.size ≤ q → A q := fun q h => by rw [← hAe]; exact Or.inr h
  have hP : va_P (dC, dI) vwCl [(h0, .inr (8, [.ref h1, .int 0, .ref h2, .ref h3, .ref h4, .ref h5, .ref h6, .ref h7, .ref h8, .ref h9, .ref h10, .ref h11])), (h1, .inl (cB, 1600, .inl (fun _ => 0)))] s.heap := hP
  have hl := lv_entry ([.ref h0, .int p0]) (n := 3) (Nat.le_of_ble_eq_true rfl)
  rw [lg_entry_eq]
  generalize (lg_sl ([.ref h0, .int p0]) ++ List.replicate (3 - (lg_sl ([.ref h0, .int p0])).length) Slot.unset).toArray = ls at hl ⊢
  have hl : lv_has ls 3 [(0, .ref h0), (1, .int p0)] := hl
  refine W_gen (A := A) hP (fun H locs hP hS => ?_)
  refine lv_bipush (v := 24) hx hb dX8_putOnTape_0 (by decide) ?_
  refine lv_istore_n (lv' := [(2, .int 24), (0, .ref h0), (1, .int p0)]) hx hb dX8_putOnTape_2 rfl hl (by decide) rfl (fun ls hl => ?_)
  refine lv_iload_n hx hb dX8_putOnTape_3 rfl (lv_at hl 0 rfl) ?_
  refine lv_if_lt (tgt := 46) hx hb dX8_putOnTape_4 (by decide) (fun cz => absurd cz (by decide)) (fun _ => ?_)
  refine lv_aload_n hx hb dX8_putOnTape_7 rfl (lv_at hl 1 rfl) ?_
  refine va_get (D := (dC, dI)) (ci := 8) (v := .int 0) (C := RX8) (T := TX8) (N := 12) hx hb hts hinX8 hown hK hP 0 rfl rfl 1 (by decide) (hts (.fieldLink RX8 13 "MayRings" "tapeLength" "I") (List.mem_of_getElem? (i := 1) rfl)) (fun _ h9 => h9) rfl dX8_putOnTape_8 ?_
  refine lv_sipush (v := 1600) hx hb dX8_putOnTape_11 (by decide) ?_
  refine lv_icmp_ge (tgt := 40) hx hb dX8_putOnTape_14 (by decide) (fun cz => absurd cz (by decide)) (fun _ => ?_)
  refine lv_aload_n hx hb dX8_putOnTape_17 rfl (lv_at hl 1 rfl) ?_
  refine va_get (D := (dC, dI)) (ci := 8) (v := .ref h1) (C := RX8) (T := TX8) (N := 12) hx hb hts hinX8 hown hK hP 0 rfl rfl 0 (by decide) (hts (.fieldLink RX8 9 "MayRings" "tape" "[B") (List.mem_of_getElem? (i := 2) rfl)) (fun _ h9 => h9) rfl dX8_putOnTape_18 ?_
  refine lv_aload_n hx hb dX8_putOnTape_21 rfl (lv_at hl 1 rfl) ?_
  refine va_get (D := (dC, dI)) (ci := 8) (v := .int 0) (C := RX8) (T := TX8) (N := 12) hx hb hts hinX8 hown hK hP 0 rfl rfl 1 (by decide) (hts (.fieldLink RX8 13 "MayRings" "tapeLength" "I") (List.mem_of_getElem? (i := 1) rfl)) (fun _ h9 => h9) rfl dX8_putOnTape_22 ?_
  refine lv_iload_n hx hb dX8_putOnTape_25 rfl (lv_at hl 2 rfl) ?_
  refine lv_iload_n hx hb dX8_putOnTape_26 rfl (lv_at hl 0 rfl) ?_
  refine lv_iushr hx hb dX8_putOnTape_27 rfl ?_
  refine lv_i2b (v := (((p0.toUInt32 >>> ((24 : Int32).toUInt32 &&& Int32.toUInt32 31)).toInt32).toInt8.toInt32)) hx hb dX8_putOnTape_28 rfl ?_
  refine va_bast hx hb hK hP hD hS 1 0 rfl rfl (show ¬ (_ ∨ _) by decide) dX8_putOnTape_29 (fun H locs hP hD hS => ?_)
  have hP : va_P (dC, dI) vwCl [(h0, .inr (8, [.ref h1, .int 0, .ref h2, .ref h3, .ref h4, .ref h5, .ref h6, .ref h7, .ref h8, .ref h9, .ref h10, .ref h11])), (h1, .inl (cB, 1600, .inl (upd (fun _ => 0) (0 : Int32).toNatClampNeg (vp_nar .byte (((p0.toUInt32 >>> ((24 : Int32).toUInt32 &&& Int32.toUInt32 31)).toInt32).toInt8.toInt32)))))] H := hP
  have hD : va_D A [(h0, .inr (8, [.ref h1, .int 0, .ref h2, .ref h3, .ref h4, .ref h5, .ref h6, .ref h7, .ref h8, .ref h9, .ref h10, .ref h11])), (h1, .inl (cB, 1600, .inl (upd (fun _ => 0) (0 : Int32).toNatClampNeg (vp_nar .byte (((p0.toUInt32 >>> ((24 : Int32).toUInt32 &&& Int32.toUInt32 31)).toInt32).toInt8.toInt32)))))] := hD
  refine lv_aload_n hx hb dX8_putOnTape_30 rfl (lv_at hl 1 rfl) ?_
  refine lv_dup hx hb dX8_putOnTape_31 rfl ?_
  refine va_get (D := (dC, dI)) (ci := 8) (v := .int 0) (C := RX8) (T := TX8) (N := 12) hx hb hts hinX8 hown hK hP 0 rfl rfl 1 (by decide) (hts (.fieldLink RX8 13 "MayRings" "tapeLength" "I") (List.mem_of_getElem? (i := 1) rfl)) (fun _ h9 => h9) rfl dX8_putOnTape_32 ?_
  refine lv_iconst (v := 1) hx hb dX8_putOnTape_35 (by decide) ?_
  refine lv_iadd hx hb dX8_putOnTape_36 ?_
  refine tp_v (.int 1) (congrArg Value.int (by decide)) ?_
  refine va_put (D := (dC, dI)) (ci := 8) (v := .int 1) (ty := .int) (C := RX8) (T := TX8) (N := 12) hx hb hts hinX8 tyX8 tyX8_ok nmX8 hown hK hP hD hS 0 rfl rfl 1 (by decide) (hts (.fieldLink RX8 13 "MayRings" "tapeLength" "I") (List.mem_of_getElem? (i := 1) rfl)) (fun _ h9 => h9) rfl (by decide +kernel) rfl rfl (Nat.le_of_ble_eq_true rfl) dX8_putOnTape_37 (fun H locs hP hD hS => ?_)
  have hP : va_P (dC, dI) vwCl [(h0, .inr (8, [.ref h1, .int 1, .ref h2, .ref h3, .ref h4, .ref h5, .ref h6, .ref h7, .ref h8, .ref h9, .ref h10, .ref h11])), (h1, .inl (cB, 1600, .inl (upd (fun _ => 0) (0 : Int32).toNatClampNeg (vp_nar .byte (((p0.toUInt32 >>> ((24 : Int32).toUInt32 &&& Int32.toUInt32 31)).toInt32).toInt8.toInt32)))))] H := hP
  have hD : va_D A [(h0, .inr (8, [.ref h1, .int 1, .ref h2, .ref h3, .ref h4, .ref h5, .ref h6, .ref h7, .ref h8, .ref h9, .ref h10, .ref h11])), (h1, .inl (cB, 1600, .inl (upd (fun _ => 0) (0 : Int32).toNatClampNeg (vp_nar .byte (((p0.toUInt32 >>> ((24 : Int32).toUInt32 &&& Int32.toUInt32 31)).toInt32).toInt8.toInt32)))))] := hD
  refine lv_iinc (v := 16) (lv' := [(2, .int 16), (0, .ref h0), (1, .int p0)]) hx hb dX8_putOnTape_40 hl (k := 0) rfl (by decide) (by decide) rfl (fun ls hl => ?_)
  refine lv_goto (tgt := 3) hx hb dX8_putOnTape_43 (by decide) ?_
  refine lv_iload_n hx hb dX8_putOnTape_3 rfl (lv_at hl 0 rfl) ?_
  refine lv_if_lt (tgt := 46) hx hb dX8_putOnTape_4 (by decide) (fun cz => absurd cz (by decide)) (fun _ => ?_)
  refine lv_aload_n hx hb dX8_putOnTape_7 rfl (lv_at hl 1 rfl) ?_
  refine va_get (D := (dC, dI)) (ci := 8) (v := .int 1) (C := RX8) (T := TX8) (N := 12) hx hb hts hinX8 hown hK hP 0 rfl rfl 1 (by decide) (hts (.fieldLink RX8 13 "MayRings" "tapeLength" "I") (List.mem_of_getElem? (i := 1) rfl)) (fun _ h9 => h9) rfl dX8_putOnTape_8 ?_
  refine lv_sipush (v := 1600) hx hb dX8_putOnTape_11 (by decide) ?_
  refine lv_icmp_ge (tgt := 40) hx hb dX8_putOnTape_14 (by decide) (fun cz => absurd cz (by decide)) (fun _ => ?_)
  refine lv_aload_n hx hb dX8_putOnTape_17 rfl (lv_at hl 1 rfl) ?_
  refine va_get (D := (dC, dI)) (ci := 8) (v := .ref h1) (C := RX8) (T := TX8) (N := 12) hx hb hts hinX8 hown hK hP 0 rfl rfl 0 (by decide) (hts (.fieldLink RX8 9 "MayRings" "tape" "[B") (List.mem_of_getElem? (i := 2) rfl)) (fun _ h9 => h9) rfl dX8_putOnTape_18 ?_
  refine lv_aload_n hx hb dX8_putOnTape_21 rfl (lv_at hl 1 rfl) ?_
  refine va_get (D := (dC, dI)) (ci := 8) (v := .int 1) (C := RX8) (T := TX8) (N := 12) hx hb hts hinX8 hown hK hP 0 rfl rfl 1 (by decide) (hts (.fieldLink RX8 13 "MayRings" "tapeLength" "I") (List.mem_of_getElem? (i := 1) rfl)) (fun _ h9 => h9) rfl dX8_putOnTape_22 ?_
  refine lv_iload_n hx hb dX8_putOnTape_25 rfl (lv_at hl 2 rfl) ?_
  refine lv_iload_n hx hb dX8_putOnTape_26 rfl (lv_at hl 0 rfl) ?_
  refine lv_iushr hx hb dX8_putOnTape_27 rfl ?_
  refine lv_i2b (v := (((p0.toUInt32 >>> ((16 : Int32).toUInt32 &&& Int32.toUInt32 31)).toInt32).toInt8.toInt32)) hx hb dX8_putOnTape_28 rfl ?_
  refine va_bast hx hb hK hP hD hS 1 0 rfl rfl (show ¬ (_ ∨ _) by decide) dX8_putOnTape_29 (fun H locs hP hD hS => ?_)
  have hP : va_P (dC, dI) vwCl [(h0, .inr (8, [.ref h1, .int 1, .ref h2, .ref h3, .ref h4, .ref h5, .ref h6, .ref h7, .ref h8, .ref h9, .ref h10, .ref h11])), (h1, .inl (cB, 1600, .inl (upd (upd (fun _ => 0) (0 : Int32).toNatClampNeg (vp_nar .byte (((p0.toUInt32 >>> ((24 : Int32).toUInt32 &&& Int32.toUInt32 31)).toInt32).toInt8.toInt32))) (1 : Int32).toNatClampNeg (vp_nar .byte (((p0.toUInt32 >>> ((16 : Int32).toUInt32 &&& Int32.toUInt32 31)).toInt32).toInt8.toInt32)))))] H := hP
  have hD : va_D A [(h0, .inr (8, [.ref h1, .int 1, .ref h2, .ref h3, .ref h4, .ref h5, .ref h6, .ref h7, .ref h8, .ref h9, .ref h10, .ref h11])), (h1, .inl (cB, 1600, .inl (upd (upd (fun _ => 0) (0 : Int32).toNatClampNeg (vp_nar .byte (((p0.toUInt32 >>> ((24 : Int32).toUInt32 &&& Int32.toUInt32 31)).toInt32).toInt8.toInt32))) (1 : Int32).toNatClampNeg (vp_nar .byte (((p0.toUInt32 >>> ((16 : Int32).toUInt32 &&& Int32.toUInt32 31)).toInt32).toInt8.toInt32)))))] := hD
  refine lv_aload_n hx hb dX8_putOnTape_30 rfl (lv_at hl 1 rfl) ?_
  refine lv_dup hx hb dX8_putOnTape_31 rfl ?_
  refine va_get (D := (dC, dI)) (ci := 8) (v := .int 1) (C := RX8) (T := TX8) (N := 12) hx hb hts hinX8 hown hK hP 0 rfl rfl 1 (by decide) (hts (.fieldLink RX8 13 "MayRings" "tapeLength" "I") (List.mem_of_getElem? (i := 1) rfl)) (fun _ h9 => h9) rfl dX8_putOnTape_32 ?_
  refine lv_iconst (v := 1) hx hb dX8_putOnTape_35 (by decide) ?_
  refine lv_iadd hx hb dX8_putOnTape_36 ?_
  refine tp_v (.int 2) (congrArg Value.int (by decide)) ?_
  refine va_put (D := (dC, dI)) (ci := 8) (v := .int 2) (ty := .int) (C := RX8) (T := TX8) (N := 12) hx hb hts hinX8 tyX8 tyX8_ok nmX8 hown hK hP hD hS 0 rfl rfl 1 (by decide) (hts (.fieldLink RX8 13 "MayRings" "tapeLength" "I") (List.mem_of_getElem? (i := 1) rfl)) (fun _ h9 => h9) rfl (by decide +kernel) rfl rfl (Nat.le_of_ble_eq_true rfl) dX8_putOnTape_37 (fun H locs hP hD hS => ?_)
  have hP : va_P (dC, dI) vwCl [(h0, .inr (8, [.ref h1, .int 2, .ref h2, .ref h3, .ref h4, .ref h5, .ref h6, .ref h7, .ref h8, .ref h9, .ref h10, .ref h11])), (h1, .inl (cB, 1600, .inl (upd (upd (fun _ => 0) (0 : Int32).toNatClampNeg (vp_nar .byte (((p0.toUInt32 >>> ((24 : Int32).toUInt32 &&& Int32.toUInt32 31)).toInt32).toInt8.toInt32))) (1 : Int32).toNatClampNeg (vp_nar .byte (((p0.toUInt32 >>> ((16 : Int32).toUInt32 &&& Int32.toUInt32 31)).toInt32).toInt8.toInt32)))))] H := hP
  have hD : va_D A [(h0, .inr (8, [.ref h1, .int 2, .ref h2, .ref h3, .ref h4, .ref h5, .ref h6, .ref h7, .ref h8, .ref h9, .ref h10, .ref h11])), (h1, .inl (cB, 1600, .inl (upd (upd (fun _ => 0) (0 : Int32).toNatClampNeg (vp_nar .byte (((p0.toUInt32 >>> ((24 : Int32).toUInt32 &&& Int32.toUInt32 31)).toInt32).toInt8.toInt32))) (1 : Int32).toNatClampNeg (vp_nar .byte (((p0.toUInt32 >>> ((16 : Int32).toUInt32 &&& Int32.toUInt32 31)).toInt32).toInt8.toInt32)))))] := hD
  refine lv_iinc (v := 8) (lv' := [(2, .int 8), (0, .ref h0), (1, .int p0)]) hx hb dX8_putOnTape_40 hl (k := 0) rfl (by decide) (by decide) rfl (fun ls hl => ?_)
  refine lv_goto (tgt := 3) hx hb dX8_putOnTape_43 (by decide) ?_
  refine lv_iload_n hx hb dX8_putOnTape_3 rfl (lv_at hl 0 rfl) ?_
  refine lv_if_lt (tgt := 46) hx hb dX8_putOnTape_4 (by decide) (fun cz => absurd cz (by decide)) (fun _ => ?_)
  refine lv_aload_n hx hb dX8_putOnTape_7 rfl (lv_at hl 1 rfl) ?_
  refine va_get (D := (dC, dI)) (ci := 8) (v := .int 2) (C := RX8) (T := TX8) (N := 12) hx hb hts hinX8 hown hK hP 0 rfl rfl 1 (by decide) (hts (.fieldLink RX8 13 "MayRings" "tapeLength" "I") (List.mem_of_getElem? (i := 1) rfl)) (fun _ h9 => h9) rfl dX8_putOnTape_8 ?_
  refine lv_sipush (v := 1600) hx hb dX8_putOnTape_11 (by decide) ?_
  refine lv_icmp_ge (tgt := 40) hx hb dX8_putOnTape_14 (by decide) (fun cz => absurd cz (by decide)) (fun _ => ?_)
  refine lv_aload_n hx hb dX8_putOnTape_17 rfl (lv_at hl 1 rfl) ?_
  refine va_get (D := (dC, dI)) (ci := 8) (v := .ref h1) (C := RX8) (T := TX8) (N := 12) hx hb hts hinX8 hown hK hP 0 rfl rfl 0 (by decide) (hts (.fieldLink RX8 9 "MayRings" "tape" "[B") (List.mem_of_getElem? (i := 2) rfl)) (fun _ h9 => h9) rfl dX8_putOnTape_18 ?_
  refine lv_aload_n hx hb dX8_putOnTape_21 rfl (lv_at hl 1 rfl) ?_
  refine va_get (D := (dC, dI)) (ci := 8) (v := .int 2) (C := RX8) (T := TX8) (N := 12) hx hb hts hinX8 hown hK hP 0 rfl rfl 1 (by decide) (hts (.fieldLink RX8 13 "MayRings" "tapeLength" "I") (List.mem_of_getElem? (i := 1) rfl)) (fun _ h9 => h9) rfl dX8_putOnTape_22 ?_
  refine lv_iload_n hx hb dX8_putOnTape_25 rfl (lv_at hl 2 rfl) ?_
  refine lv_iload_n hx hb dX8_putOnTape_26 rfl (lv_at hl 0 rfl) ?_
  refine lv_iushr hx hb dX8_putOnTape_27 rfl ?_
  refine lv_i2b (v := (((p0.toUInt32 >>> ((8 : Int32).toUInt32 &&& Int32.toUInt32 31)).toInt32).toInt8.toInt32)) hx hb dX8_putOnTape_28 rfl ?_
  refine va_bast hx hb hK hP hD hS 1 0 rfl rfl (show ¬ (_ ∨ _) by decide) dX8_putOnTape_29 (fun H locs hP hD hS => ?_)
  have hP : va_P (dC, dI) vwCl [(h0, .inr (8, [.ref h1, .int 2, .ref h2, .ref h3, .ref h4, .ref h5, .ref h6, .ref h7, .ref h8, .ref h9, .ref h10, .ref h11])), (h1, .inl (cB, 1600, .inl (upd (upd (upd (fun _ => 0) (0 : Int32).toNatClampNeg (vp_nar .byte (((p0.toUInt32 >>> ((24 : Int32).toUInt32 &&& Int32.toUInt32 31)).toInt32).toInt8.toInt32))) (1 : Int32).toNatClampNeg (vp_nar .byte (((p0.toUInt32 >>> ((16 : Int32).toUInt32 &&& Int32.toUInt32 31)).toInt32).toInt8.toInt32))) (2 : Int32).toNatClampNeg (vp_nar .byte (((p0.toUInt32 >>> ((8 : Int32).toUInt32 &&& Int32.toUInt32 31)).toInt32).toInt8.toInt32)))))] H := hP
  have hD : va_D A [(h0, .inr (8, [.ref h1, .int 2, .ref h2, .ref h3, .ref h4, .ref h5, .ref h6, .ref h7, .ref h8, .ref h9, .ref h10, .ref h11])), (h1, .inl (cB, 1600, .inl (upd (upd (upd (fun _ => 0) (0 : Int32).toNatClampNeg (vp_nar .byte (((p0.toUInt32 >>> ((24 : Int32).toUInt32 &&& Int32.toUInt32 31)).toInt32).toInt8.toInt32))) (1 : Int32).toNatClampNeg (vp_nar .byte (((p0.toUInt32 >>> ((16 : Int32).toUInt32 &&& Int32.toUInt32 31)).toInt32).toInt8.toInt32))) (2 : Int32).toNatClampNeg (vp_nar .byte (((p0.toUInt32 >>> ((8 : Int32).toUInt32 &&& Int32.toUInt32 31)).toInt32).toInt8.toInt32)))))] := hD
  refine lv_aload_n hx hb dX8_putOnTape_30 rfl (lv_at hl 1 rfl) ?_
  refine lv_dup hx hb dX8_putOnTape_31 rfl ?_
  refine va_get (D := (dC, dI)) (ci := 8) (v := .int 2) (C := RX8) (T := TX8) (N := 12) hx hb hts hinX8 hown hK hP 0 rfl rfl 1 (by decide) (hts (.fieldLink RX8 13 "MayRings" "tapeLength" "I") (List.mem_of_getElem? (i := 1) rfl)) (fun _ h9 => h9) rfl dX8_putOnTape_32 ?_
  refine lv_iconst (v := 1) hx hb dX8_putOnTape_35 (by decide) ?_
  refine lv_iadd hx hb dX8_putOnTape_36 ?_
  refine tp_v (.int 3) (congrArg Value.int (by decide)) ?_
  refine va_put (D := (dC, dI)) (ci := 8) (v := .int 3) (ty := .int) (C := RX8) (T := TX8) (N := 12) hx hb hts hinX8 tyX8 tyX8_ok nmX8 hown hK hP hD hS 0 rfl rfl 1 (by decide) (hts (.fieldLink RX8 13 "MayRings" "tapeLength" "I") (List.mem_of_getElem? (i := 1) rfl)) (fun _ h9 => h9) rfl (by decide +kernel) rfl rfl (Nat.le_of_ble_eq_true rfl) dX8_putOnTape_37 (fun H locs hP hD hS => ?_)
  have hP : va_P (dC, dI) vwCl [(h0, .inr (8, [.ref h1, .int 3, .ref h2, .ref h3, .ref h4, .ref h5, .ref h6, .ref h7, .ref h8, .ref h9, .ref h10, .ref h11])), (h1, .inl (cB, 1600, .inl (upd (upd (upd (fun _ => 0) (0 : Int32).toNatClampNeg (vp_nar .byte (((p0.toUInt32 >>> ((24 : Int32).toUInt32 &&& Int32.toUInt32 31)).toInt32).toInt8.toInt32))) (1 : Int32).toNatClampNeg (vp_nar .byte (((p0.toUInt32 >>> ((16 : Int32).toUInt32 &&& Int32.toUInt32 31)).toInt32).toInt8.toInt32))) (2 : Int32).toNatClampNeg (vp_nar .byte (((p0.toUInt32 >>> ((8 : Int32).toUInt32 &&& Int32.toUInt32 31)).toInt32).toInt8.toInt32)))))] H := hP
  have hD : va_D A [(h0, .inr (8, [.ref h1, .int 3, .ref h2, .ref h3, .ref h4, .ref h5, .ref h6, .ref h7, .ref h8, .ref h9, .ref h10, .ref h11])), (h1, .inl (cB, 1600, .inl (upd (upd (upd (fun _ => 0) (0 : Int32).toNatClampNeg (vp_nar .byte (((p0.toUInt32 >>> ((24 : Int32).toUInt32 &&& Int32.toUInt32 31)).toInt32).toInt8.toInt32))) (1 : Int32).toNatClampNeg (vp_nar .byte (((p0.toUInt32 >>> ((16 : Int32).toUInt32 &&& Int32.toUInt32 31)).toInt32).toInt8.toInt32))) (2 : Int32).toNatClampNeg (vp_nar .byte (((p0.toUInt32 >>> ((8 : Int32).toUInt32 &&& Int32.toUInt32 31)).toInt32).toInt8.toInt32)))))] := hD
  refine lv_iinc (v := 0) (lv' := [(2, .int 0), (0, .ref h0), (1, .int p0)]) hx hb dX8_putOnTape_40 hl (k := 0) rfl (by decide) (by decide) rfl (fun ls hl => ?_)
  refine lv_goto (tgt := 3) hx hb dX8_putOnTape_43 (by decide) ?_
  refine lv_iload_n hx hb dX8_putOnTape_3 rfl (lv_at hl 0 rfl) ?_
  refine lv_if_lt (tgt := 46) hx hb dX8_putOnTape_4 (by decide) (fun cz => absurd cz (by decide)) (fun _ => ?_)
  refine lv_aload_n hx hb dX8_putOnTape_7 rfl (lv_at hl 1 rfl) ?_
  refine va_get (D := (dC, dI)) (ci := 8) (v := .int 3) (C := RX8) (T := TX8) (N := 12) hx hb hts hinX8 hown hK hP 0 rfl rfl 1 (by decide) (hts (.fieldLink RX8 13 "MayRings" "tapeLength" "I") (List.mem_of_getElem? (i := 1) rfl)) (fun _ h9 => h9) rfl dX8_putOnTape_8 ?_
  refine lv_sipush (v := 1600) hx hb dX8_putOnTape_11 (by decide) ?_
  refine lv_icmp_ge (tgt := 40) hx hb dX8_putOnTape_14 (by decide) (fun cz => absurd cz (by decide)) (fun _ => ?_)
  refine lv_aload_n hx hb dX8_putOnTape_17 rfl (lv_at hl 1 rfl) ?_
  refine va_get (D := (dC, dI)) (ci := 8) (v := .ref h1) (C := RX8) (T := TX8) (N := 12) hx hb hts hinX8 hown hK hP 0 rfl rfl 0 (by decide) (hts (.fieldLink RX8 9 "MayRings" "tape" "[B") (List.mem_of_getElem? (i := 2) rfl)) (fun _ h9 => h9) rfl dX8_putOnTape_18 ?_
  refine lv_aload_n hx hb dX8_putOnTape_21 rfl (lv_at hl 1 rfl) ?_
  refine va_get (D := (dC, dI)) (ci := 8) (v := .int 3) (C := RX8) (T := TX8) (N := 12) hx hb hts hinX8 hown hK hP 0 rfl rfl 1 (by decide) (hts (.fieldLink RX8 13 "MayRings" "tapeLength" "I") (List.mem_of_getElem? (i := 1) rfl)) (fun _ h9 => h9) rfl dX8_putOnTape_22 ?_
  refine lv_iload_n hx hb dX8_putOnTape_25 rfl (lv_at hl 2 rfl) ?_
  refine lv_iload_n hx hb dX8_putOnTape_26 rfl (lv_at hl 0 rfl) ?_
  refine lv_iushr hx hb dX8_putOnTape_27 rfl ?_
  refine lv_i2b (v := (((p0.toUInt32 >>> ((0 : Int32).toUInt32 &&& Int32.toUInt32 31)).toInt32).toInt8.toInt32)) hx hb dX8_putOnTape_28 rfl ?_
  refine va_bast hx hb hK hP hD hS 1 0 rfl rfl (show ¬ (_ ∨ _) by decide) dX8_putOnTape_29 (fun H locs hP hD hS => ?_)
  have hP : va_P (dC, dI) vwCl [(h0, .inr (8, [.ref h1, .int 3, .ref h2, .ref h3, .ref h4, .ref h5, .ref h6, .ref h7, .ref h8, .ref h9, .ref h10, .ref h11])), (h1, .inl (cB, 1600, .inl (upd (upd (upd (upd (fun _ => 0) (0 : Int32).toNatClampNeg (vp_nar .byte (((p0.toUInt32 >>> ((24 : Int32).toUInt32 &&& Int32.toUInt32 31)).toInt32).toInt8.toInt32))) (1 : Int32).toNatClampNeg (vp_nar .byte (((p0.toUInt32 >>> ((16 : Int32).toUInt32 &&& Int32.toUInt32 31)).toInt32).toInt8.toInt32))) (2 : Int32).toNatClampNeg (vp_nar .byte (((p0.toUInt32 >>> ((8 : Int32).toUInt32 &&& Int32.toUInt32 31)).toInt32).toInt8.toInt32))) (3 : Int32).toNatClampNeg (vp_nar .byte (((p0.toUInt32 >>> ((0 : Int32).toUInt32 &&& Int32.toUInt32 31)).toInt32).toInt8.toInt32)))))] H := hP
  have hD : va_D A [(h0, .inr (8, [.ref h1, .int 3, .ref h2, .ref h3, .ref h4, .ref h5, .ref h6, .ref h7, .ref h8, .ref h9, .ref h10, .ref h11])), (h1, .inl (cB, 1600, .inl (upd (upd (upd (upd (fun _ => 0) (0 : Int32).toNatClampNeg (vp_nar .byte (((p0.toUInt32 >>> ((24 : Int32).toUInt32 &&& Int32.toUInt32 31)).toInt32).toInt8.toInt32))) (1 : Int32).toNatClampNeg (vp_nar .byte (((p0.toUInt32 >>> ((16 : Int32).toUInt32 &&& Int32.toUInt32 31)).toInt32).toInt8.toInt32))) (2 : Int32).toNatClampNeg (vp_nar .byte (((p0.toUInt32 >>> ((8 : Int32).toUInt32 &&& Int32.toUInt32 31)).toInt32).toInt8.toInt32))) (3 : Int32).toNatClampNeg (vp_nar .byte (((p0.toUInt32 >>> ((0 : Int32).toUInt32 &&& Int32.toUInt32 31)).toInt32).toInt8.toInt32)))))] := hD
  refine lv_aload_n hx hb dX8_putOnTape_30 rfl (lv_at hl 1 rfl) ?_
  refine lv_dup hx hb dX8_putOnTape_31 rfl ?_
  refine va_get (D := (dC, dI)) (ci := 8) (v := .int 3) (C := RX8) (T := TX8) (N := 12) hx hb hts hinX8 hown hK hP 0 rfl rfl 1 (by decide) (hts (.fieldLink RX8 13 "MayRings" "tapeLength" "I") (List.mem_of_getElem? (i := 1) rfl)) (fun _ h9 => h9) rfl dX8_putOnTape_32 ?_
  refine lv_iconst (v := 1) hx hb dX8_putOnTape_35 (by decide) ?_
  refine lv_iadd hx hb dX8_putOnTape_36 ?_
  refine tp_v (.int 4) (congrArg Value.int (by decide)) ?_
  refine va_put (D := (dC, dI)) (ci := 8) (v := .int 4) (ty := .int) (C := RX8) (T := TX8) (N := 12) hx hb hts hinX8 tyX8 tyX8_ok nmX8 hown hK hP hD hS 0 rfl rfl 1 (by decide) (hts (.fieldLink RX8 13 "MayRings" "tapeLength" "I") (List.mem_of_getElem? (i := 1) rfl)) (fun _ h9 => h9) rfl (by decide +kernel) rfl rfl (Nat.le_of_ble_eq_true rfl) dX8_putOnTape_37 (fun H locs hP hD hS => ?_)
  have hP : va_P (dC, dI) vwCl [(h0, .inr (8, [.ref h1, .int 4, .ref h2, .ref h3, .ref h4, .ref h5, .ref h6, .ref h7, .ref h8, .ref h9, .ref h10, .ref h11])), (h1, .inl (cB, 1600, .inl (upd (upd (upd (upd (fun _ => 0) (0 : Int32).toNatClampNeg (vp_nar .byte (((p0.toUInt32 >>> ((24 : Int32).toUInt32 &&& Int32.toUInt32 31)).toInt32).toInt8.toInt32))) (1 : Int32).toNatClampNeg (vp_nar .byte (((p0.toUInt32 >>> ((16 : Int32).toUInt32 &&& Int32.toUInt32 31)).toInt32).toInt8.toInt32))) (2 : Int32).toNatClampNeg (vp_nar .byte (((p0.toUInt32 >>> ((8 : Int32).toUInt32 &&& Int32.toUInt32 31)).toInt32).toInt8.toInt32))) (3 : Int32).toNatClampNeg (vp_nar .byte (((p0.toUInt32 >>> ((0 : Int32).toUInt32 &&& Int32.toUInt32 31)).toInt32).toInt8.toInt32)))))] H := hP
  have hD : va_D A [(h0, .inr (8, [.ref h1, .int 4, .ref h2, .ref h3, .ref h4, .ref h5, .ref h6, .ref h7, .ref h8, .ref h9, .ref h10, .ref h11])), (h1, .inl (cB, 1600, .inl (upd (upd (upd (upd (fun _ => 0) (0 : Int32).toNatClampNeg (vp_nar .byte (((p0.toUInt32 >>> ((24 : Int32).toUInt32 &&& Int32.toUInt32 31)).toInt32).toInt8.toInt32))) (1 : Int32).toNatClampNeg (vp_nar .byte (((p0.toUInt32 >>> ((16 : Int32).toUInt32 &&& Int32.toUInt32 31)).toInt32).toInt8.toInt32))) (2 : Int32).toNatClampNeg (vp_nar .byte (((p0.toUInt32 >>> ((8 : Int32).toUInt32 &&& Int32.toUInt32 31)).toInt32).toInt8.toInt32))) (3 : Int32).toNatClampNeg (vp_nar .byte (((p0.toUInt32 >>> ((0 : Int32).toUInt32 &&& Int32.toUInt32 31)).toInt32).toInt8.toInt32)))))] := hD
  refine lv_iinc (v := (-8)) (lv' := [(2, .int (-8)), (0, .ref h0), (1, .int p0)]) hx hb dX8_putOnTape_40 hl (k := 0) rfl (by decide) (by decide) rfl (fun ls hl => ?_)
  refine lv_goto (tgt := 3) hx hb dX8_putOnTape_43 (by decide) ?_
  refine lv_iload_n hx hb dX8_putOnTape_3 rfl (lv_at hl 0 rfl) ?_
  refine lv_if_lt (tgt := 46) hx hb dX8_putOnTape_4 (by decide) (fun _ => ?_) (fun cz => absurd (by decide) cz)
  have hP9 := hP.sub (ws' := [(h0, .inr (8, [.ref h1, .int 4, .ref h2, .ref h3, .ref h4, .ref h5, .ref h6, .ref h7, .ref h8, .ref h9, .ref h10, .ref h11])), (h1, .inl (cB, 1600, .inl (upd (upd (upd (upd (fun _ => 0) (0 : Int32).toNatClampNeg (vp_nar .byte (((p0.toUInt32 >>> ((24 : Int32).toUInt32 &&& Int32.toUInt32 31)).toInt32).toInt8.toInt32))) (1 : Int32).toNatClampNeg (vp_nar .byte (((p0.toUInt32 >>> ((16 : Int32).toUInt32 &&& Int32.toUInt32 31)).toInt32).toInt8.toInt32))) (2 : Int32).toNatClampNeg (vp_nar .byte (((p0.toUInt32 >>> ((8 : Int32).toUInt32 &&& Int32.toUInt32 31)).toInt32).toInt8.toInt32))) (3 : Int32).toNatClampNeg (vp_nar .byte (((p0.toUInt32 >>> ((0 : Int32).toUInt32 &&& Int32.toUInt32 31)).toInt32).toInt8.toInt32)))))]) [0, 1] rfl
  have hD9 := hD.sub (ws' := [(h0, .inr (8, [.ref h1, .int 4, .ref h2, .ref h3, .ref h4, .ref h5, .ref h6, .ref h7, .ref h8, .ref h9, .ref h10, .ref h11])), (h1, .inl (cB, 1600, .inl (upd (upd (upd (upd (fun _ => 0) (0 : Int32).toNatClampNeg (vp_nar .byte (((p0.toUInt32 >>> ((24 : Int32).toUInt32 &&& Int32.toUInt32 31)).toInt32).toInt8.toInt32))) (1 : Int32).toNatClampNeg (vp_nar .byte (((p0.toUInt32 >>> ((16 : Int32).toUInt32 &&& Int32.toUInt32 31)).toInt32).toInt8.toInt32))) (2 : Int32).toNatClampNeg (vp_nar .byte (((p0.toUInt32 >>> ((8 : Int32).toUInt32 &&& Int32.toUInt32 31)).toInt32).toInt8.toInt32))) (3 : Int32).toNatClampNeg (vp_nar .byte (((p0.toUInt32 >>> ((0 : Int32).toUInt32 &&& Int32.toUInt32 31)).toInt32).toInt8.toInt32)))))]) [0, 1] (by decide) rfl
  exact W.vret hx hb hr (fun t ht hW => ⟨⟨(), rfl, trivial, ⟨(upd (upd (upd (upd (fun _ => 0) (0 : Int32).toNatClampNeg (vp_nar .byte (((p0.toUInt32 >>> ((24 : Int32).toUInt32 &&& Int32.toUInt32 31)).toInt32).toInt8.toInt32))) (1 : Int32).toNatClampNeg (vp_nar .byte (((p0.toUInt32 >>> ((16 : Int32).toUInt32 &&& Int32.toUInt32 31)).toInt32).toInt8.toInt32))) (2 : Int32).toNatClampNeg (vp_nar .byte (((p0.toUInt32 >>> ((8 : Int32).toUInt32 &&& Int32.toUInt32 31)).toInt32).toInt8.toInt32))) (3 : Int32).toNatClampNeg (vp_nar .byte (((p0.toUInt32 >>> ((0 : Int32).toUInt32 &&& Int32.toUInt32 31)).toInt32).toInt8.toInt32))), by rw [ht]; exact hP9, hD9⟩⟩, hS.F ht⟩) hS.2.2 dX8_putOnTape_46
def v_X8_putOnTape_2 : List Cond := Cond.code yX8_putOnTape cX8_putOnTape 3 none :: ([Cond.fieldLink RX8 13 "MayRings" "tapeLength" "I", Cond.fieldLink RX8 9 "MayRings" "tape" "[B"] ++ (wsX80 ++ ([])))
theorem k_X8_putOnTape_2 : GoodIn lw_tbl v_X8_putOnTape_2 := gd_c (List.mem_of_getElem? (i := 575) (by decide +kernel)) rfl (goodIn_app (gd_c (List.mem_of_getElem? (i := 532) (by decide +kernel)) rfl (gd_c (List.mem_of_getElem? (i := 531) (by decide +kernel)) rfl (gd_nil))) (goodIn_app kfX8 (gd_nil)))
set_option maxHeartbeats 600000 in
set_option maxRecDepth 100000 in
theorem c_X8_putOnTape_2 (l : Launch) (dC : Nat → ClassId) (dI : Nat → Nat → Nat) (cB cI cJ cZ cP : ClassId) (h0 : Nat) (p0 : Int32) (h1 : Nat) (h2 : Nat) (h3 : Nat) (h4 : Nat) (h5 : Nat) (h6 : Nat) (h7 : Nat) (h8 : Nat) (h9 : Nat) (h10 : Nat) (h11 : Nat) (g0 : Nat → Int32) (sz : Nat) : Met l yX8_putOnTape v_X8_putOnTape_2 ({ frames := 0, cells := 0, slots := 0, locals := 0 }) (va_Pc [.ref h0, .int p0] (fun U => U.heap.size = sz ∧ va_P (dC, dI) vwCl [(h0, .inr (8, [.ref h1, .int 4, .ref h2, .ref h3, .ref h4, .ref h5, .ref h6, .ref h7, .ref h8, .ref h9, .ref h10, .ref h11])), (h1, .inl (cB, 1600, .inl g0))] U.heap ∧ va_K (dC, dI) vwCl (ty5 cB cI cJ cZ cP) U ∧ va_D (fun _ => True) [(h0, .inr (8, [.ref h1, .int 4, .ref h2, .ref h3, .ref h4, .ref h5, .ref h6, .ref h7, .ref h8, .ref h9, .ref h10, .ref h11])), (h1, .inl (cB, 1600, .inl g0))])) (va_Qv (fun _ : Unit => True) (fun _ t => ∃ (z1000 : Nat → Int32), va_P (dC, dI) vwCl [(h0, .inr (8, [.ref h1, .int 8, .ref h2, .ref h3, .ref h4, .ref h5, .ref h6, .ref h7, .ref h8, .ref h9, .ref h10, .ref h11])), (h1, .inl (cB, 1600, .inl z1000))] t.heap ∧ va_D (va_A [(h0, .inr (8, [.ref h1, .int 4, .ref h2, .ref h3, .ref h4, .ref h5, .ref h6, .ref h7, .ref h8, .ref h9, .ref h10, .ref h11])), (h1, .inl (cB, 1600, .inl g0))] sz) [(h0, .inr (8, [.ref h1, .int 8, .ref h2, .ref h3, .ref h4, .ref h5, .ref h6, .ref h7, .ref h8, .ref h9, .ref h10, .ref h11])), (h1, .inl (cB, 1600, .inl z1000))]) (va_A [(h0, .inr (8, [.ref h1, .int 4, .ref h2, .ref h3, .ref h4, .ref h5, .ref h6, .ref h7, .ref h8, .ref h9, .ref h10, .ref h11])), (h1, .inl (cB, 1600, .inl g0))] sz)) 0 0 (va_A [(h0, .inr (8, [.ref h1, .int 4, .ref h2, .ref h3, .ref h4, .ref h5, .ref h6, .ref h7, .ref h8, .ref h9, .ref h10, .ref h11])), (h1, .inl (cB, 1600, .inl g0))] sz) := by
  refine Met.ofW (cc := cX8_putOnTape) (maxL := 3) (ret := none) (by decide) rfl ?_
  intro p e s m args below meth c s₁ B hml hv
  obtain ⟨rfl, hsz, hP, hK, hD0⟩ := hv
  have hx := B.exec
  have hb := B.bytes
  have hr := B.returns
  have hts := atoms_spec (ws := v_X8_putOnTape_2) B.pre
  have hown : s.vm.findClass RX8 = some m.cls := findClass_of_methodNamed B.named
  have hlocks := B.notSynchronized
  have hinX8 : ∀ w ∈ wsX80, w ∈ v_X8_putOnTape_2 := fun _ h => List.mem_cons_of_mem _ (List.mem_append_right _ (List.mem_append_left _ h))
  subst hsz
  have hD := hD0.self (sz := s.heap.size)
  generalize hAe : va_A [(h0, .inr (8, [.ref h1, .int 4, .ref h2, .ref h3, .ref h4, .ref h5, .ref h6, .ref h7, .ref h8, .ref h9, .ref h10, .ref h11])), (h1, .inl (cB, 1600, .inl g0))] s.heap.size = A at hD ⊢
  have hA : ∀ q : Nat, s.heap.size ≤ q → A q := fun q h => by rw [← hAe]; exact Or.inr h
  have hP : va_P (dC, dI) vwCl [(h0, .inr (8, [.ref h1, .int 4, .ref h2, .ref h3, .ref h4, .ref h5, .ref h6, .ref h7, .ref h8, .ref h9, .ref h10, .ref h11])), (h1, .inl (cB, 1600, .inl g0))] s.heap := hP
  have hl := lv_entry ([.ref h0, .int p0]) (n := 3) (Nat.le_of_ble_eq_true rfl)
  rw [lg_entry_eq]
  generalize (lg_sl ([.ref h0, .int p0]) ++ List.replicate (3 - (lg_sl ([.ref h0, .int p0])).length) Slot.unset).toArray = ls at hl ⊢
  have hl : lv_has ls 3 [(0, .ref h0), (1, .int p0)] := hl
  refine W_gen (A := A) hP (fun H locs hP hS => ?_)
  refine lv_bipush (v := 24) hx hb dX8_putOnTape_0 (by decide) ?_
  refine lv_istore_n (lv' := [(2, .int 24), (0, .ref h0), (1, .int p0)]) hx hb dX8_putOnTape_2 rfl hl (by decide) rfl (fun ls hl => ?_)
  refine lv_iload_n hx hb dX8_putOnTape_3 rfl (lv_at hl 0 rfl) ?_
  refine lv_if_lt (tgt := 46) hx hb dX8_putOnTape_4 (by decide) (fun cz => absurd cz (by decide)) (fun _ => ?_)
  refine lv_aload_n hx hb dX8_putOnTape_7 rfl (lv_at hl 1 rfl) ?_
  refine va_get (D := (dC, dI)) (ci := 8) (v := .int 4) (C := RX8) (T := TX8) (N := 12) hx hb hts hinX8 hown hK hP 0 rfl rfl 1 (by decide) (hts (.fieldLink RX8 13 "MayRings" "tapeLength" "I") (List.mem_of_getElem? (i := 1) rfl)) (fun _ h9 => h9) rfl dX8_putOnTape_8 ?_
  refine lv_sipush (v := 1600) hx hb dX8_putOnTape_11 (by decide) ?_
  refine lv_icmp_ge (tgt := 40) hx hb dX8_putOnTape_14 (by decide) (fun cz => absurd cz (by decide)) (fun _ => ?_)
  refine lv_aload_n hx hb dX8_putOnTape_17 rfl (lv_at hl 1 rfl) ?_
  refine va_get (D := (dC, dI)) (ci := 8) (v := .ref h1) (C := RX8) (T := TX8) (N := 12) hx hb hts hinX8 hown hK hP 0 rfl rfl 0 (by decide) (hts (.fieldLink RX8 9 "MayRings" "tape" "[B") (List.mem_of_getElem? (i := 2) rfl)) (fun _ h9 => h9) rfl dX8_putOnTape_18 ?_
  refine lv_aload_n hx hb dX8_putOnTape_21 rfl (lv_at hl 1 rfl) ?_
  refine va_get (D := (dC, dI)) (ci := 8) (v := .int 4) (C := RX8) (T := TX8) (N := 12) hx hb hts hinX8 hown hK hP 0 rfl rfl 1 (by decide) (hts (.fieldLink RX8 13 "MayRings" "tapeLength" "I") (List.mem_of_getElem? (i := 1) rfl)) (fun _ h9 => h9) rfl dX8_putOnTape_22 ?_
  refine lv_iload_n hx hb dX8_putOnTape_25 rfl (lv_at hl 2 rfl) ?_
  refine lv_iload_n hx hb dX8_putOnTape_26 rfl (lv_at hl 0 rfl) ?_
  refine lv_iushr hx hb dX8_putOnTape_27 rfl ?_
  refine lv_i2b (v := (((p0.toUInt32 >>> ((24 : Int32).toUInt32 &&& Int32.toUInt32 31)).toInt32).toInt8.toInt32)) hx hb dX8_putOnTape_28 rfl ?_
  refine va_bast hx hb hK hP hD hS 1 0 rfl rfl (show ¬ (_ ∨ _) by decide) dX8_putOnTape_29 (fun H locs hP hD hS => ?_)
  have hP : va_P (dC, dI) vwCl [(h0, .inr (8, [.ref h1, .int 4, .ref h2, .ref h3, .ref h4, .ref h5, .ref h6, .ref h7, .ref h8, .ref h9, .ref h10, .ref h11])), (h1, .inl (cB, 1600, .inl (upd g0 (4 : Int32).toNatClampNeg (vp_nar .byte (((p0.toUInt32 >>> ((24 : Int32).toUInt32 &&& Int32.toUInt32 31)).toInt32).toInt8.toInt32)))))] H := hP
  have hD : va_D A [(h0, .inr (8, [.ref h1, .int 4, .ref h2, .ref h3, .ref h4, .ref h5, .ref h6, .ref h7, .ref h8, .ref h9, .ref h10, .ref h11])), (h1, .inl (cB, 1600, .inl (upd g0 (4 : Int32).toNatClampNeg (vp_nar .byte (((p0.toUInt32 >>> ((24 : Int32).toUInt32 &&& Int32.toUInt32 31)).toInt32).toInt8.toInt32)))))] := hD
  refine lv_aload_n hx hb dX8_putOnTape_30 rfl (lv_at hl 1 rfl) ?_
  refine lv_dup hx hb dX8_putOnTape_31 rfl ?_
  refine va_get (D := (dC, dI)) (ci := 8) (v := .int 4) (C := RX8) (T := TX8) (N := 12) hx hb hts hinX8 hown hK hP 0 rfl rfl 1 (by decide) (hts (.fieldLink RX8 13 "MayRings" "tapeLength" "I") (List.mem_of_getElem? (i := 1) rfl)) (fun _ h9 => h9) rfl dX8_putOnTape_32 ?_
  refine lv_iconst (v := 1) hx hb dX8_putOnTape_35 (by decide) ?_
  refine lv_iadd hx hb dX8_putOnTape_36 ?_
  refine tp_v (.int 5) (congrArg Value.int (by decide)) ?_
  refine va_put (D := (dC, dI)) (ci := 8) (v := .int 5) (ty := .int) (C := RX8) (T := TX8) (N := 12) hx hb hts hinX8 tyX8 tyX8_ok nmX8 hown hK hP hD hS 0 rfl rfl 1 (by decide) (hts (.fieldLink RX8 13 "MayRings" "tapeLength" "I") (List.mem_of_getElem? (i := 1) rfl)) (fun _ h9 => h9) rfl (by decide +kernel) rfl rfl (Nat.le_of_ble_eq_true rfl) dX8_putOnTape_37 (fun H locs hP hD hS => ?_)
  have hP : va_P (dC, dI) vwCl [(h0, .inr (8, [.ref h1, .int 5, .ref h2, .ref h3, .ref h4, .ref h5, .ref h6, .ref h7, .ref h8, .ref h9, .ref h10, .ref h11])), (h1, .inl (cB, 1600, .inl (upd g0 (4 : Int32).toNatClampNeg (vp_nar .byte (((p0.toUInt32 >>> ((24 : Int32).toUInt32 &&& Int32.toUInt32 31)).toInt32).toInt8.toInt32)))))] H := hP
  have hD : va_D A [(h0, .inr (8, [.ref h1, .int 5, .ref h2, .ref h3, .ref h4, .ref h5, .ref h6, .ref h7, .ref h8, .ref h9, .ref h10, .ref h11])), (h1, .inl (cB, 1600, .inl (upd g0 (4 : Int32).toNatClampNeg (vp_nar .byte (((p0.toUInt32 >>> ((24 : Int32).toUInt32 &&& Int32.toUInt32 31)).toInt32).toInt8.toInt32)))))] := hD
  refine lv_iinc (v := 16) (lv' := [(2, .int 16), (0, .ref h0), (1, .int p0)]) hx hb dX8_putOnTape_40 hl (k := 0) rfl (by decide) (by decide) rfl (fun ls hl => ?_)
  refine lv_goto (tgt := 3) hx hb dX8_putOnTape_43 (by decide) ?_
  refine lv_iload_n hx hb dX8_putOnTape_3 rfl (lv_at hl 0 rfl) ?_
  refine lv_if_lt (tgt := 46) hx hb dX8_putOnTape_4 (by decide) (fun cz => absurd cz (by decide)) (fun _ => ?_)
  refine lv_aload_n hx hb dX8_putOnTape_7 rfl (lv_at hl 1 rfl) ?_
  refine va_get (D := (dC, dI)) (ci := 8) (v := .int 5) (C := RX8) (T := TX8) (N := 12) hx hb hts hinX8 hown hK hP 0 rfl rfl 1 (by decide) (hts (.fieldLink RX8 13 "MayRings" "tapeLength" "I") (List.mem_of_getElem? (i := 1) rfl)) (fun _ h9 => h9) rfl dX8_putOnTape_8 ?_
  refine lv_sipush (v := 1600) hx hb dX8_putOnTape_11 (by decide) ?_
  refine lv_icmp_ge (tgt := 40) hx hb dX8_putOnTape_14 (by decide) (fun cz => absurd cz (by decide)) (fun _ => ?_)
  refine lv_aload_n hx hb dX8_putOnTape_17 rfl (lv_at hl 1 rfl) ?_
  refine va_get (D := (dC, dI)) (ci := 8) (v := .ref h1) (C := RX8) (T := TX8) (N := 12) hx hb hts hinX8 hown hK hP 0 rfl rfl 0 (by decide) (hts (.fieldLink RX8 9 "MayRings" "tape" "[B") (List.mem_of_getElem? (i := 2) rfl)) (fun _ h9 => h9) rfl dX8_putOnTape_18 ?_
  refine lv_aload_n hx hb dX8_putOnTape_21 rfl (lv_at hl 1 rfl) ?_
  refine va_get (D := (dC, dI)) (ci := 8) (v := .int 5) (C := RX8) (T := TX8) (N := 12) hx hb hts hinX8 hown hK hP 0 rfl rfl 1 (by decide) (hts (.fieldLink RX8 13 "MayRings" "tapeLength" "I") (List.mem_of_getElem? (i := 1) rfl)) (fun _ h9 => h9) rfl dX8_putOnTape_22 ?_
  refine lv_iload_n hx hb dX8_putOnTape_25 rfl (lv_at hl 2 rfl) ?_
  refine lv_iload_n hx hb dX8_putOnTape_26 rfl (lv_at hl 0 rfl) ?_
  refine lv_iushr hx hb dX8_putOnTape_27 rfl ?_
  refine lv_i2b (v := (((p0.toUInt32 >>> ((16 : Int32).toUInt32 &&& Int32.toUInt32 31)).toInt32).toInt8.toInt32)) hx hb dX8_putOnTape_28 rfl ?_
  refine va_bast hx hb hK hP hD hS 1 0 rfl rfl (show ¬ (_ ∨ _) by decide) dX8_putOnTape_29 (fun H locs hP hD hS => ?_)
  have hP : va_P (dC, dI) vwCl [(h0, .inr (8, [.ref h1, .int 5, .ref h2, .ref h3, .ref h4, .ref h5, .ref h6, .ref h7, .ref h8, .ref h9, .ref h10, .ref h11])), (h1, .inl (cB, 1600, .inl (upd (upd g0 (4 : Int32).toNatClampNeg (vp_nar .byte (((p0.toUInt32 >>> ((24 : Int32).toUInt32 &&& Int32.toUInt32 31)).toInt32).toInt8.toInt32))) (5 : Int32).toNatClampNeg (vp_nar .byte (((p0.toUInt32 >>> ((16 : Int32).toUInt32 &&& Int32.toUInt32 31)).toInt32).toInt8.toInt32)))))] H := hP
  have hD : va_D A [(h0, .inr (8, [.ref h1, .int 5, .ref h2, .ref h3, .ref h4, .ref h5, .ref h6, .ref h7, .ref h8, .ref h9, .ref h10, .ref h11])), (h1, .inl (cB, 1600, .inl (upd (upd g0 (4 : Int32).toNatClampNeg (vp_nar .byte (((p0.toUInt32 >>> ((24 : Int32).toUInt32 &&& Int32.toUInt32 31)).toInt32).toInt8.toInt32))) (5 : Int32).toNatClampNeg (vp_nar .byte (((p0.toUInt32 >>> ((16 : Int32).toUInt32 &&& Int32.toUInt32 31)).toInt32).toInt8.toInt32)))))] := hD
  refine lv_aload_n hx hb dX8_putOnTape_30 rfl (lv_at hl 1 rfl) ?_
  refine lv_dup hx hb dX8_putOnTape_31 rfl ?_
  refine va_get (D := (dC, dI)) (ci := 8) (v := .int 5) (C := RX8) (T := TX8) (N := 12) hx hb hts hinX8 hown hK hP 0 rfl rfl 1 (by decide) (hts (.fieldLink RX8 13 "MayRings" "tapeLength" "I") (List.mem_of_getElem? (i := 1) rfl)) (fun _ h9 => h9) rfl dX8_putOnTape_32 ?_
  refine lv_iconst (v := 1) hx hb dX8_putOnTape_35 (by decide) ?_
  refine lv_iadd hx hb dX8_putOnTape_36 ?_
  refine tp_v (.int 6) (congrArg Value.int (by decide)) ?_
  refine va_put (D := (dC, dI)) (ci := 8) (v := .int 6) (ty := .int) (C := RX8) (T := TX8) (N := 12) hx hb hts hinX8 tyX8 tyX8_ok nmX8 hown hK hP hD hS 0 rfl rfl 1 (by decide) (hts (.fieldLink RX8 13 "MayRings" "tapeLength" "I") (List.mem_of_getElem? (i := 1) rfl)) (fun _ h9 => h9) rfl (by decide +kernel) rfl rfl (Nat.le_of_ble_eq_true rfl) dX8_putOnTape_37 (fun H locs hP hD hS => ?_)
  have hP : va_P (dC, dI) vwCl [(h0, .inr (8, [.ref h1, .int 6, .ref h2, .ref h3, .ref h4, .ref h5, .ref h6, .ref h7, .ref h8, .ref h9, .ref h10, .ref h11])), (h1, .inl (cB, 1600, .inl (upd (upd g0 (4 : Int32).toNatClampNeg (vp_nar .byte (((p0.toUInt32 >>> ((24 : Int32).toUInt32 &&& Int32.toUInt32 31)).toInt32).toInt8.toInt32))) (5 : Int32).toNatClampNeg (vp_nar .byte (((p0.toUInt32 >>> ((16 : Int32).toUInt32 &&& Int32.toUInt32 31)).toInt32).toInt8.toInt32)))))] H := hP
  have hD : va_D A [(h0, .inr (8, [.ref h1, .int 6, .ref h2, .ref h3, .ref h4, .ref h5, .ref h6, .ref h7, .ref h8, .ref h9, .ref h10, .ref h11])), (h1, .inl (cB, 1600, .inl (upd (upd g0 (4 : Int32).toNatClampNeg (vp_nar .byte (((p0.toUInt32 >>> ((24 : Int32).toUInt32 &&& Int32.toUInt32 31)).toInt32).toInt8.toInt32))) (5 : Int32).toNatClampNeg (vp_nar .byte (((p0.toUInt32 >>> ((16 : Int32).toUInt32 &&& Int32.toUInt32 31)).toInt32).toInt8.toInt32)))))] := hD
  refine lv_iinc (v := 8) (lv' := [(2, .int 8), (0, .ref h0), (1, .int p0)]) hx hb dX8_putOnTape_40 hl (k := 0) rfl (by decide) (by decide) rfl (fun ls hl => ?_)
  refine lv_goto (tgt := 3) hx hb dX8_putOnTape_43 (by decide) ?_
  refine lv_iload_n hx hb dX8_putOnTape_3 rfl (lv_at hl 0 rfl) ?_
  refine lv_if_lt (tgt := 46) hx hb dX8_putOnTape_4 (by decide) (fun cz => absurd cz (by decide)) (fun _ => ?_)
  refine lv_aload_n hx hb dX8_putOnTape_7 rfl (lv_at hl 1 rfl) ?_
  refine va_get (D := (dC, dI)) (ci := 8) (v := .int 6) (C := RX8) (T := TX8) (N := 12) hx hb hts hinX8 hown hK hP 0 rfl rfl 1 (by decide) (hts (.fieldLink RX8 13 "MayRings" "tapeLength" "I") (List.mem_of_getElem? (i := 1) rfl)) (fun _ h9 => h9) rfl dX8_putOnTape_8 ?_
  refine lv_sipush (v := 1600) hx hb dX8_putOnTape_11 (by decide) ?_
  refine lv_icmp_ge (tgt := 40) hx hb dX8_putOnTape_14 (by decide) (fun cz => absurd cz (by decide)) (fun _ => ?_)
  refine lv_aload_n hx hb dX8_putOnTape_17 rfl (lv_at hl 1 rfl) ?_
  refine va_get (D := (dC, dI)) (ci := 8) (v := .ref h1) (C := RX8) (T := TX8) (N := 12) hx hb hts hinX8 hown hK hP 0 rfl rfl 0 (by decide) (hts (.fieldLink RX8 9 "MayRings" "tape" "[B") (List.mem_of_getElem? (i := 2) rfl)) (fun _ h9 => h9) rfl dX8_putOnTape_18 ?_
  refine lv_aload_n hx hb dX8_putOnTape_21 rfl (lv_at hl 1 rfl) ?_
  refine va_get (D := (dC, dI)) (ci := 8) (v := .int 6) (C := RX8) (T := TX8) (N := 12) hx hb hts hinX8 hown hK hP 0 rfl rfl 1 (by decide) (hts (.fieldLink RX8 13 "MayRings" "tapeLength" "I") (List.mem_of_getElem? (i := 1) rfl)) (fun _ h9 => h9) rfl dX8_putOnTape_22 ?_
  refine lv_iload_n hx hb dX8_putOnTape_25 rfl (lv_at hl 2 rfl) ?_
  refine lv_iload_n hx hb dX8_putOnTape_26 rfl (lv_at hl 0 rfl) ?_
  refine lv_iushr hx hb dX8_putOnTape_27 rfl ?_
  refine lv_i2b (v := (((p0.toUInt32 >>> ((8 : Int32).toUInt32 &&& Int32.toUInt32 31)).toInt32).toInt8.toInt32)) hx hb dX8_putOnTape_28 rfl ?_
  refine va_bast hx hb hK hP hD hS 1 0 rfl rfl (show ¬ (_ ∨ _) by decide) dX8_putOnTape_29 (fun H locs hP hD hS => ?_)
  have hP : va_P (dC, dI) vwCl [(h0, .inr (8, [.ref h1, .int 6, .ref h2, .ref h3, .ref h4, .ref h5, .ref h6, .ref h7, .ref h8, .ref h9, .ref h10, .ref h11])), (h1, .inl (cB, 1600, .inl (upd (upd (upd g0 (4 : Int32).toNatClampNeg (vp_nar .byte (((p0.toUInt32 >>> ((24 : Int32).toUInt32 &&& Int32.toUInt32 31)).toInt32).toInt8.toInt32))) (5 : Int32).toNatClampNeg (vp_nar .byte (((p0.toUInt32 >>> ((16 : Int32).toUInt32 &&& Int32.toUInt32 31)).toInt32).toInt8.toInt32))) (6 : Int32).toNatClampNeg (vp_nar .byte (((p0.toUInt32 >>> ((8 : Int32).toUInt32 &&& Int32.toUInt32 31)).toInt32).toInt8.toInt32)))))] H := hP
  have hD : va_D A [(h0, .inr (8, [.ref h1, .int 6, .ref h2, .ref h3, .ref h4, .ref h5, .ref h6, .ref h7, .ref h8, .ref h9, .ref h10, .ref h11])), (h1, .inl (cB, 1600, .inl (upd (upd (upd g0 (4 : Int32).toNatClampNeg (vp_nar .byte (((p0.toUInt32 >>> ((24 : Int32).toUInt32 &&& Int32.toUInt32 31)).toInt32).toInt8.toInt32))) (5 : Int32).toNatClampNeg (vp_nar .byte (((p0.toUInt32 >>> ((16 : Int32).toUInt32 &&& Int32.toUInt32 31)).toInt32).toInt8.toInt32))) (6 : Int32).toNatClampNeg (vp_nar .byte (((p0.toUInt32 >>> ((8 : Int32).toUInt32 &&& Int32.toUInt32 31)).toInt32).toInt8.toInt32)))))] := hD
  refine lv_aload_n hx hb dX8_putOnTape_30 rfl (lv_at hl 1 rfl) ?_
  refine lv_dup hx hb dX8_putOnTape_31 rfl ?_
  refine va_get (D := (dC, dI)) (ci := 8) (v := .int 6) (C := RX8) (T := TX8) (N := 12) hx hb hts hinX8 hown hK hP 0 rfl rfl 1 (by decide) (hts (.fieldLink RX8 13 "MayRings" "tapeLength" "I") (List.mem_of_getElem? (i := 1) rfl)) (fun _ h9 => h9) rfl dX8_putOnTape_32 ?_
  refine lv_iconst (v := 1) hx hb dX8_putOnTape_35 (by decide) ?_
  refine lv_iadd hx hb dX8_putOnTape_36 ?_
  refine tp_v (.int 7) (congrArg Value.int (by decide)) ?_
  refine va_put (D := (dC, dI)) (ci := 8) (v := .int 7) (ty := .int) (C := RX8) (T := TX8) (N := 12) hx hb hts hinX8 tyX8 tyX8_ok nmX8 hown hK hP hD hS 0 rfl rfl 1 (by decide) (hts (.fieldLink RX8 13 "MayRings" "tapeLength" "I") (List.mem_of_getElem? (i := 1) rfl)) (fun _ h9 => h9) rfl (by decide +kernel) rfl rfl (Nat.le_of_ble_eq_true rfl) dX8_putOnTape_37 (fun H locs hP hD hS => ?_)
  have hP : va_P (dC, dI) vwCl [(h0, .inr (8, [.ref h1, .int 7, .ref h2, .ref h3, .ref h4, .ref h5, .ref h6, .ref h7, .ref h8, .ref h9, .ref h10, .ref h11])), (h1, .inl (cB, 1600, .inl (upd (upd (upd g0 (4 : Int32).toNatClampNeg (vp_nar .byte (((p0.toUInt32 >>> ((24 : Int32).toUInt32 &&& Int32.toUInt32 31)).toInt32).toInt8.toInt32))) (5 : Int32).toNatClampNeg (vp_nar .byte (((p0.toUInt32 >>> ((16 : Int32).toUInt32 &&& Int32.toUInt32 31)).toInt32).toInt8.toInt32))) (6 : Int32).toNatClampNeg (vp_nar .byte (((p0.toUInt32 >>> ((8 : Int32).toUInt32 &&& Int32.toUInt32 31)).toInt32).toInt8.toInt32)))))] H := hP
  have hD : va_D A [(h0, .inr (8, [.ref h1, .int 7, .ref h2, .ref h3, .ref h4, .ref h5, .ref h6, .ref h7, .ref h8, .ref h9, .ref h10, .ref h11])), (h1, .inl (cB, 1600, .inl (upd (upd (upd g0 (4 : Int32).toNatClampNeg (vp_nar .byte (((p0.toUInt32 >>> ((24 : Int32).toUInt32 &&& Int32.toUInt32 31)).toInt32).toInt8.toInt32))) (5 : Int32).toNatClampNeg (vp_nar .byte (((p0.toUInt32 >>> ((16 : Int32).toUInt32 &&& Int32.toUInt32 31)).toInt32).toInt8.toInt32))) (6 : Int32).toNatClampNeg (vp_nar .byte (((p0.toUInt32 >>> ((8 : Int32).toUInt32 &&& Int32.toUInt32 31)).toInt32).toInt8.toInt32)))))] := hD
  refine lv_iinc (v := 0) (lv' := [(2, .int 0), (0, .ref h0), (1, .int p0)]) hx hb dX8_putOnTape_40 hl (k := 0) rfl (by decide) (by decide) rfl (fun ls hl => ?_)
  refine lv_goto (tgt := 3) hx hb dX8_putOnTape_43 (by decide) ?_
  refine lv_iload_n hx hb dX8_putOnTape_3 rfl (lv_at hl 0 rfl) ?_
  refine lv_if_lt (tgt := 46) hx hb dX8_putOnTape_4 (by decide) (fun cz => absurd cz (by decide)) (fun _ => ?_)
  refine lv_aload_n hx hb dX8_putOnTape_7 rfl (lv_at hl 1 rfl) ?_
  refine va_get (D := (dC, dI)) (ci := 8) (v := .int 7) (C := RX8) (T := TX8) (N := 12) hx hb hts hinX8 hown hK hP 0 rfl rfl 1 (by decide) (hts (.fieldLink RX8 13 "MayRings" "tapeLength" "I") (List.mem_of_getElem? (i := 1) rfl)) (fun _ h9 => h9) rfl dX8_putOnTape_8 ?_
  refine lv_sipush (v := 1600) hx hb dX8_putOnTape_11 (by decide) ?_
  refine lv_icmp_ge (tgt := 40) hx hb dX8_putOnTape_14 (by decide) (fun cz => absurd cz (by decide)) (fun _ => ?_)
  refine lv_aload_n hx hb dX8_putOnTape_17 rfl (lv_at hl 1 rfl) ?_
  refine va_get (D := (dC, dI)) (ci := 8) (v := .ref h1) (C := RX8) (T := TX8) (N := 12) hx hb hts hinX8 hown hK hP 0 rfl rfl 0 (by decide) (hts (.fieldLink RX8 9 "MayRings" "tape" "[B") (List.mem_of_getElem? (i := 2) rfl)) (fun _ h9 => h9) rfl dX8_putOnTape_18 ?_
  refine lv_aload_n hx hb dX8_putOnTape_21 rfl (lv_at hl 1 rfl) ?_
  refine va_get (D := (dC, dI)) (ci := 8) (v := .int 7) (C := RX8) (T := TX8) (N := 12) hx hb hts hinX8 hown hK hP 0 rfl rfl 1 (by decide) (hts (.fieldLink RX8 13 "MayRings" "tapeLength" "I") (List.mem_of_getElem? (i := 1) rfl)) (fun _ h9 => h9) rfl dX8_putOnTape_22 ?_
  refine lv_iload_n hx hb dX8_putOnTape_25 rfl (lv_at hl 2 rfl) ?_
  refine lv_iload_n hx hb dX8_putOnTape_26 rfl (lv_at hl 0 rfl) ?_
  refine lv_iushr hx hb dX8_putOnTape_27 rfl ?_
  refine lv_i2b (v := (((p0.toUInt32 >>> ((0 : Int32).toUInt32 &&& Int32.toUInt32 31)).toInt32).toInt8.toInt32)) hx hb dX8_putOnTape_28 rfl ?_
  refine va_bast hx hb hK hP hD hS 1 0 rfl rfl (show ¬ (_ ∨ _) by decide) dX8_putOnTape_29 (fun H locs hP hD hS => ?_)
  have hP : va_P (dC, dI) vwCl [(h0, .inr (8, [.ref h1, .int 7, .ref h2, .ref h3, .ref h4, .ref h5, .ref h6, .ref h7, .ref h8, .ref h9, .ref h10, .ref h11])), (h1, .inl (cB, 1600, .inl (upd (upd (upd (upd g0 (4 : Int32).toNatClampNeg (vp_nar .byte (((p0.toUInt32 >>> ((24 : Int32).toUInt32 &&& Int32.toUInt32 31)).toInt32).toInt8.toInt32))) (5 : Int32).toNatClampNeg (vp_nar .byte (((p0.toUInt32 >>> ((16 : Int32).toUInt32 &&& Int32.toUInt32 31)).toInt32).toInt8.toInt32))) (6 : Int32).toNatClampNeg (vp_nar .byte (((p0.toUInt32 >>> ((8 : Int32).toUInt32 &&& Int32.toUInt32 31)).toInt32).toInt8.toInt32))) (7 : Int32).toNatClampNeg (vp_nar .byte (((p0.toUInt32 >>> ((0 : Int32).toUInt32 &&& Int32.toUInt32 31)).toInt32).toInt8.toInt32)))))] H := hP
  have hD : va_D A [(h0, .inr (8, [.ref h1, .int 7, .ref h2, .ref h3, .ref h4, .ref h5, .ref h6, .ref h7, .ref h8, .ref h9, .ref h10, .ref h11])), (h1, .inl (cB, 1600, .inl (upd (upd (upd (upd g0 (4 : Int32).toNatClampNeg (vp_nar .byte (((p0.toUInt32 >>> ((24 : Int32).toUInt32 &&& Int32.toUInt32 31)).toInt32).toInt8.toInt32))) (5 : Int32).toNatClampNeg (vp_nar .byte (((p0.toUInt32 >>> ((16 : Int32).toUInt32 &&& Int32.toUInt32 31)).toInt32).toInt8.toInt32))) (6 : Int32).toNatClampNeg (vp_nar .byte (((p0.toUInt32 >>> ((8 : Int32).toUInt32 &&& Int32.toUInt32 31)).toInt32).toInt8.toInt32))) (7 : Int32).toNatClampNeg (vp_nar .byte (((p0.toUInt32 >>> ((0 : Int32).toUInt32 &&& Int32.toUInt32 31)).toInt32).toInt8.toInt32)))))] := hD
  refine lv_aload_n hx hb dX8_putOnTape_30 rfl (lv_at hl 1 rfl) ?_
  refine lv_dup hx hb dX8_putOnTape_31 rfl ?_
  refine va_get (D := (dC, dI)) (ci := 8) (v := .int 7) (C := RX8) (T := TX8) (N := 12) hx hb hts hinX8 hown hK hP 0 rfl rfl 1 (by decide) (hts (.fieldLink RX8 13 "MayRings" "tapeLength" "I") (List.mem_of_getElem? (i := 1) rfl)) (fun _ h9 => h9) rfl dX8_putOnTape_32 ?_
  refine lv_iconst (v := 1) hx hb dX8_putOnTape_35 (by decide) ?_
  refine lv_iadd hx hb dX8_putOnTape_36 ?_
  refine tp_v (.int 8) (congrArg Value.int (by decide)) ?_
  refine va_put (D := (dC, dI)) (ci := 8) (v := .int 8) (ty := .int) (C := RX8) (T := TX8) (N := 12) hx hb hts hinX8 tyX8 tyX8_ok nmX8 hown hK hP hD hS 0 rfl rfl 1 (by decide) (hts (.fieldLink RX8 13 "MayRings" "tapeLength" "I") (List.mem_of_getElem? (i := 1) rfl)) (fun _ h9 => h9) rfl (by decide +kernel) rfl rfl (Nat.le_of_ble_eq_true rfl) dX8_putOnTape_37 (fun H locs hP hD hS => ?_)
  have hP : va_P (dC, dI) vwCl [(h0, .inr (8, [.ref h1, .int 8, .ref h2, .ref h3, .ref h4, .ref h5, .ref h6, .ref h7, .ref h8, .ref h9, .ref h10, .ref h11])), (h1, .inl (cB, 1600, .inl (upd (upd (upd (upd g0 (4 : Int32).toNatClampNeg (vp_nar .byte (((p0.toUInt32 >>> ((24 : Int32).toUInt32 &&& Int32.toUInt32 31)).toInt32).toInt8.toInt32))) (5 : Int32).toNatClampNeg (vp_nar .byte (((p0.toUInt32 >>> ((16 : Int32).toUInt32 &&& Int32.toUInt32 31)).toInt32).toInt8.toInt32))) (6 : Int32).toNatClampNeg (vp_nar .byte (((p0.toUInt32 >>> ((8 : Int32).toUInt32 &&& Int32.toUInt32 31)).toInt32).toInt8.toInt32))) (7 : Int32).toNatClampNeg (vp_nar .byte (((p0.toUInt32 >>> ((0 : Int32).toUInt32 &&& Int32.toUInt32 31)).toInt32).toInt8.toInt32)))))] H := hP
  have hD : va_D A [(h0, .inr (8, [.ref h1, .int 8, .ref h2, .ref h3, .ref h4, .ref h5, .ref h6, .ref h7, .ref h8, .ref h9, .ref h10, .ref h11])), (h1, .inl (cB, 1600, .inl (upd (upd (upd (upd g0 (4 : Int32).toNatClampNeg (vp_nar .byte (((p0.toUInt32 >>> ((24 : Int32).toUInt32 &&& Int32.toUInt32 31)).toInt32).toInt8.toInt32))) (5 : Int32).toNatClampNeg (vp_nar .byte (((p0.toUInt32 >>> ((16 : Int32).toUInt32 &&& Int32.toUInt32 31)).toInt32).toInt8.toInt32))) (6 : Int32).toNatClampNeg (vp_nar .byte (((p0.toUInt32 >>> ((8 : Int32).toUInt32 &&& Int32.toUInt32 31)).toInt32).toInt8.toInt32))) (7 : Int32).toNatClampNeg (vp_nar .byte (((p0.toUInt32 >>> ((0 : Int32).toUInt32 &&& Int32.toUInt32 31)).toInt32).toInt8.toInt32)))))] := hD
  refine lv_iinc (v := (-8)) (lv' := [(2, .int (-8)), (0, .ref h0), (1, .int p0)]) hx hb dX8_putOnTape_40 hl (k := 0) rfl (by decide) (by decide) rfl (fun ls hl => ?_)
  refine lv_goto (tgt := 3) hx hb dX8_putOnTape_43 (by decide) ?_
  refine lv_iload_n hx hb dX8_putOnTape_3 rfl (lv_at hl 0 rfl) ?_
  refine lv_if_lt (tgt := 46) hx hb dX8_putOnTape_4 (by decide) (fun _ => ?_) (fun cz => absurd (by decide) cz)
  have hP9 := hP.sub (ws' := [(h0, .inr (8, [.ref h1, .int 8, .ref h2, .ref h3, .ref h4, .ref h5, .ref h6, .ref h7, .ref h8, .ref h9, .ref h10, .ref h11])), (h1, .inl (cB, 1600, .inl (upd (upd (upd (upd g0 (4 : Int32).toNatClampNeg (vp_nar .byte (((p0.toUInt32 >>> ((24 : Int32).toUInt32 &&& Int32.toUInt32 31)).toInt32).toInt8.toInt32))) (5 : Int32).toNatClampNeg (vp_nar .byte (((p0.toUInt32 >>> ((16 : Int32).toUInt32 &&& Int32.toUInt32 31)).toInt32).toInt8.toInt32))) (6 : Int32).toNatClampNeg (vp_nar .byte (((p0.toUInt32 >>> ((8 : Int32).toUInt32 &&& Int32.toUInt32 31)).toInt32).toInt8.toInt32))) (7 : Int32).toNatClampNeg (vp_nar .byte (((p0.toUInt32 >>> ((0 : Int32).toUInt32 &&& Int32.toUInt32 31)).toInt32).toInt8.toInt32)))))]) [0, 1] rfl
  have hD9 := hD.sub (ws' := [(h0, .inr (8, [.ref h1, .int 8, .ref h2, .ref h3, .ref h4, .ref h5, .ref h6, .ref h7, .ref h8, .ref h9, .ref h10, .ref h11])), (h1, .inl (cB, 1600, .inl (upd (upd (upd (upd g0 (4 : Int32).toNatClampNeg (vp_nar .byte (((p0.toUInt32 >>> ((24 : Int32).toUInt32 &&& Int32.toUInt32 31)).toInt32).toInt8.toInt32))) (5 : Int32).toNatClampNeg (vp_nar .byte (((p0.toUInt32 >>> ((16 : Int32).toUInt32 &&& Int32.toUInt32 31)).toInt32).toInt8.toInt32))) (6 : Int32).toNatClampNeg (vp_nar .byte (((p0.toUInt32 >>> ((8 : Int32).toUInt32 &&& Int32.toUInt32 31)).toInt32).toInt8.toInt32))) (7 : Int32).toNatClampNeg (vp_nar .byte (((p0.toUInt32 >>> ((0 : Int32).toUInt32 &&& Int32.toUInt32 31)).toInt32).toInt8.toInt32)))))]) [0, 1] (by decide) rfl
  exact W.vret hx hb hr (fun t ht hW => ⟨⟨(), rfl, trivial, ⟨(upd (upd (upd (upd g0 (4 : Int32).toNatClampNeg (vp_nar .byte (((p0.toUInt32 >>> ((24 : Int32).toUInt32 &&& Int32.toUInt32 31)).toInt32).toInt8.toInt32))) (5 : Int32).toNatClampNeg (vp_nar .byte (((p0.toUInt32 >>> ((16 : Int32).toUInt32 &&& Int32.toUInt32 31)).toInt32).toInt8.toInt32))) (6 : Int32).toNatClampNeg (vp_nar .byte (((p0.toUInt32 >>> ((8 : Int32).toUInt32 &&& Int32.toUInt32 31)).toInt32).toInt8.toInt32))) (7 : Int32).toNatClampNeg (vp_nar .byte (((p0.toUInt32 >>> ((0 : Int32).toUInt32 &&& Int32.toUInt32 31)).toInt32).toInt8.toInt32))), by rw [ht]; exact hP9, hD9⟩⟩, hS.F ht⟩) hS.2.2 dX8_putOnTape_46
def v_X8_putOnTape_3 : List Cond := Cond.code yX8_putOnTape cX8_putOnTape 3 none :: ([Cond.fieldLink RX8 13 "MayRings" "tapeLength" "I", Cond.fieldLink RX8 9 "MayRings" "tape" "[B"] ++ (wsX80 ++ ([])))
theorem k_X8_putOnTape_3 : GoodIn lw_tbl v_X8_putOnTape_3 := gd_c (List.mem_of_getElem? (i := 575) (by decide +kernel)) rfl (goodIn_app (gd_c (List.mem_of_getElem? (i := 532) (by decide +kernel)) rfl (gd_c (List.mem_of_getElem? (i := 531) (by decide +kernel)) rfl (gd_nil))) (goodIn_app kfX8 (gd_nil)))
set_option maxHeartbeats 600000 in
set_option maxRecDepth 100000 in
theorem c_X8_putOnTape_3 (l : Launch) (dC : Nat → ClassId) (dI : Nat → Nat → Nat) (cB cI cJ cZ cP : ClassId) (h0 : Nat) (p0 : Int32) (h1 : Nat) (h2 : Nat) (h3 : Nat) (h4 : Nat) (h5 : Nat) (h6 : Nat) (h7 : Nat) (h8 : Nat) (h9 : Nat) (h10 : Nat) (h11 : Nat) (g0 : Nat → Int32) (sz : Nat) : Met l yX8_putOnTape v_X8_putOnTape_3 ({ frames := 0, cells := 0, slots := 0, locals := 0 }) (va_Pc [.ref h0, .int p0] (fun U => U.heap.size = sz ∧ va_P (dC, dI) vwCl [(h0, .inr (8, [.ref h1, .int 8, .ref h2, .ref h3, .ref h4, .ref h5, .ref h6, .ref h7, .ref h8, .ref h9, .ref h10, .ref h11])), (h1, .inl (cB, 1600, .inl g0))] U.heap ∧ va_K (dC, dI) vwCl (ty5 cB cI cJ cZ cP) U ∧ va_D (fun _ => True) [(h0, .inr (8, [.ref h1, .int 8, .ref h2, .ref h3, .ref h4, .ref h5, .ref h6, .ref h7, .ref h8, .ref h9, .ref h10, .ref h11])), (h1, .inl (cB, 1600, .inl g0))])) (va_Qv (fun _ : Unit => True) (fun _ t => ∃ (z1000 : Nat → Int32), va_P (dC, dI) vwCl [(h0, .inr (8, [.ref h1, .int 12, .ref h2, .ref h3, .ref h4, .ref h5, .ref h6, .ref h7, .ref h8, .ref h9, .ref h10, .ref h11])), (h1, .inl (cB, 1600, .inl z1000))] t.heap ∧ va_D (va_A [(h0, .inr (8, [.ref h1, .int 8, .ref h2, .ref h3, .ref h4, .ref h5, .ref h6, .ref h7, .ref h8, .ref h9, .ref h10, .ref h11])), (h1, .inl (cB, 1600, .inl g0))] sz) [(h0, .inr (8, [.ref h1, .int 12, .ref h2, .ref h3, .ref h4, .ref h5, .ref h6, .ref h7, .ref h8, .ref h9, .ref h10, .ref h11])), (h1, .inl (cB, 1600, .inl z1000))]) (va_A [(h0, .inr (8, [.ref h1, .int 8, .ref h2, .ref h3, .ref h4, .ref h5, .ref h6, .ref h7, .ref h8, .ref h9, .ref h10, .ref h11])), (h1, .inl (cB, 1600, .inl g0))] sz)) 0 0 (va_A [(h0, .inr (8, [.ref h1, .int 8, .ref h2, .ref h3, .ref h4, .ref h5, .ref h6, .ref h7, .ref h8, .ref h9, .ref h10, .ref h11])), (h1, .inl (cB, 1600, .inl g0))] sz) := by
  refine Met.ofW (cc := cX8_putOnTape) (maxL := 3) (ret := none) (by decide) rfl ?_
  intro p e s m args below meth c s₁ B hml hv
  obtain ⟨rfl, hsz, hP, hK, hD0⟩ := hv
  have hx := B.exec
  have hb := B.bytes
  have hr := B.returns
  have hts := atoms_spec (ws := v_X8_putOnTape_3) B.pre
  have hown : s.vm.findClass RX8 = some m.cls := findClass_of_methodNamed B.named
  have hlocks := B.notSynchronized
  have hinX8 : ∀ w ∈ wsX80, w ∈ v_X8_putOnTape_3 := fun _ h => List.mem_cons_of_mem _ (List.mem_append_right _ (List.mem_append_left _ h))
  subst hsz
  have hD := hD0.self (sz := s.heap.size)
  generalize hAe : va_A [(h0, .inr (8, [.ref h1, .int 8, .ref h2, .ref h3, .ref h4, .ref h5, .ref h6, .ref h7, .ref h8, .ref h9, .ref h10, .ref h11])), (h1, .inl (cB, 1600, .inl g0))] s.heap.size = A at hD ⊢
  have hA : ∀ q : Nat, s.heap.size ≤ q → A q := fun q h => by rw [← hAe]; exact Or.inr h
  have hP : va_P (dC, dI) vwCl [(h0, .inr (8, [.ref h1, .int 8, .ref h2, .ref h3, .ref h4, .ref h5, .ref h6, .ref h7, .ref h8, .ref h9, .ref h10, .ref h11])), (h1, .inl (cB, 1600, .inl g0))] s.heap := hP
  have hl := lv_entry ([.ref h0, .int p0]) (n := 3) (Nat.le_of_ble_eq_true rfl)
  rw [lg_entry_eq]
  generalize (lg_sl ([.ref h0, .int p0]) ++ List.replicate (3 - (lg_sl ([.ref h0, .int p0])).length) Slot.unset).toArray = ls at hl ⊢
  have hl : lv_has ls 3 [(0, .ref h0), (1, .int p0)] := hl
  refine W_gen (A := A) hP (fun H locs hP hS => ?_)
  refine lv_bipush (v := 24) hx hb dX8_putOnTape_0 (by decide) ?_
  refine lv_istore_n (lv' := [(2, .int 24), (0, .ref h0), (1, .int p0)]) hx hb dX8_putOnTape_2 rfl hl (by decide) rfl (fun ls hl => ?_)
  refine lv_iload_n hx hb dX8_putOnTape_3 rfl (lv_at hl 0 rfl) ?_
  refine lv_if_lt (tgt := 46) hx hb dX8_putOnTape_4 (by decide) (fun cz => absurd cz (by decide)) (fun _ => ?_)
  refine lv_aload_n hx hb dX8_putOnTape_7 rfl (lv_at hl 1 rfl) ?_
  refine va_get (D := (dC, dI)) (ci := 8) (v := .int 8) (C := RX8) (T := TX8) (N := 12) hx hb hts hinX8 hown hK hP 0 rfl rfl 1 (by decide) (hts (.fieldLink RX8 13 "MayRings" "tapeLength" "I") (List.mem_of_getElem? (i := 1) rfl)) (fun _ h9 => h9) rfl dX8_putOnTape_8 ?_
  refine lv_sipush (v := 1600) hx hb dX8_putOnTape_11 (by decide) ?_
  refine lv_icmp_ge (tgt := 40) hx hb dX8_putOnTape_14 (by decide) (fun cz => absurd cz (by decide)) (fun _ => ?_)
  refine lv_aload_n hx hb dX8_putOnTape_17 rfl (lv_at hl 1 rfl) ?_
  refine va_get (D := (dC, dI)) (ci := 8) (v := .ref h1) (C := RX8) (T := TX8) (N := 12) hx hb hts hinX8 hown hK hP 0 rfl rfl 0 (by decide) (hts (.fieldLink RX8 9 "MayRings" "tape" "[B") (List.mem_of_getElem? (i := 2) rfl)) (fun _ h9 => h9) rfl dX8_putOnTape_18 ?_
  refine lv_aload_n hx hb dX8_putOnTape_21 rfl (lv_at hl 1 rfl) ?_
  refine va_get (D := (dC, dI)) (ci := 8) (v := .int 8) (C := RX8) (T := TX8) (N := 12) hx hb hts hinX8 hown hK hP 0 rfl rfl 1 (by decide) (hts (.fieldLink RX8 13 "MayRings" "tapeLength" "I") (List.mem_of_getElem? (i := 1) rfl)) (fun _ h9 => h9) rfl dX8_putOnTape_22 ?_
  refine lv_iload_n hx hb dX8_putOnTape_25 rfl (lv_at hl 2 rfl) ?_
  refine lv_iload_n hx hb dX8_putOnTape_26 rfl (lv_at hl 0 rfl) ?_
  refine lv_iushr hx hb dX8_putOnTape_27 rfl ?_
  refine lv_i2b (v := (((p0.toUInt32 >>> ((24 : Int32).toUInt32 &&& Int32.toUInt32 31)).toInt32).toInt8.toInt32)) hx hb dX8_putOnTape_28 rfl ?_
  refine va_bast hx hb hK hP hD hS 1 0 rfl rfl (show ¬ (_ ∨ _) by decide) dX8_putOnTape_29 (fun H locs hP hD hS => ?_)
  have hP : va_P (dC, dI) vwCl [(h0, .inr (8, [.ref h1, .int 8, .ref h2, .ref h3, .ref h4, .ref h5, .ref h6, .ref h7, .ref h8, .ref h9, .ref h10, .ref h11])), (h1, .inl (cB, 1600, .inl (upd g0 (8 : Int32).toNatClampNeg (vp_nar .byte (((p0.toUInt32 >>> ((24 : Int32).toUInt32 &&& Int32.toUInt32 31)).toInt32).toInt8.toInt32)))))] H := hP
  have hD : va_D A [(h0, .inr (8, [.ref h1, .int 8, .ref h2, .ref h3, .ref h4, .ref h5, .ref h6, .ref h7, .ref h8, .ref h9, .ref h10, .ref h11])), (h1, .inl (cB, 1600, .inl (upd g0 (8 : Int32).toNatClampNeg (vp_nar .byte (((p0.toUInt32 >>> ((24 : Int32).toUInt32 &&& Int32.toUInt32 31)).toInt32).toInt8.toInt32)))))] := hD
  refine lv_aload_n hx hb dX8_putOnTape_30 rfl (lv_at hl 1 rfl) ?_
  refine lv_dup hx hb dX8_putOnTape_31 rfl ?_
  refine va_get (D := (dC, dI)) (ci := 8) (v := .int 8) (C := RX8) (T := TX8) (N := 12) hx hb hts hinX8 hown hK hP 0 rfl rfl 1 (by decide) (hts (.fieldLink RX8 13 "MayRings" "tapeLength" "I") (List.mem_of_getElem? (i := 1) rfl)) (fun _ h9 => h9) rfl dX8_putOnTape_32 ?_
  refine lv_iconst (v := 1) hx hb dX8_putOnTape_35 (by decide) ?_
  refine lv_iadd hx hb dX8_putOnTape_36 ?_
  refine tp_v (.int 9) (congrArg Value.int (by decide)) ?_
  refine va_put (D := (dC, dI)) (ci := 8) (v := .int 9) (ty := .int) (C := RX8) (T := TX8) (N := 12) hx hb hts hinX8 tyX8 tyX8_ok nmX8 hown hK hP hD hS 0 rfl rfl 1 (by decide) (hts (.fieldLink RX8 13 "MayRings" "tapeLength" "I") (List.mem_of_getElem? (i := 1) rfl)) (fun _ h9 => h9) rfl (by decide +kernel) rfl rfl (Nat.le_of_ble_eq_true rfl) dX8_putOnTape_37 (fun H locs hP hD hS => ?_)
  have hP : va_P (dC, dI) vwCl [(h0, .inr (8, [.ref h1, .int 9, .ref h2, .ref h3, .ref h4, .ref h5, .ref h6, .ref h7, .ref h8, .ref h9, .ref h10, .ref h11])), (h1, .inl (cB, 1600, .inl (upd g0 (8 : Int32).toNatClampNeg (vp_nar .byte (((p0.toUInt32 >>> ((24 : Int32).toUInt32 &&& Int32.toUInt32 31)).toInt32).toInt8.toInt32)))))] H := hP
  have hD : va_D A [(h0, .inr (8, [.ref h1, .int 9, .ref h2, .ref h3, .ref h4, .ref h5, .ref h6, .ref h7, .ref h8, .ref h9, .ref h10, .ref h11])), (h1, .inl (cB, 1600, .inl (upd g0 (8 : Int32).toNatClampNeg (vp_nar .byte (((p0.toUInt32 >>> ((24 : Int32).toUInt32 &&& Int32.toUInt32 31)).toInt32).toInt8.toInt32)))))] := hD
  refine lv_iinc (v := 16) (lv' := [(2, .int 16), (0, .ref h0), (1, .int p0)]) hx hb dX8_putOnTape_40 hl (k := 0) rfl (by decide) (by decide) rfl (fun ls hl => ?_)
  refine lv_goto (tgt := 3) hx hb dX8_putOnTape_43 (by decide) ?_
  refine lv_iload_n hx hb dX8_putOnTape_3 rfl (lv_at hl 0 rfl) ?_
  refine lv_if_lt (tgt := 46) hx hb dX8_putOnTape_4 (by decide) (fun cz => absurd cz (by decide)) (fun _ => ?_)
  refine lv_aload_n hx hb dX8_putOnTape_7 rfl (lv_at hl 1 rfl) ?_
  refine va_get (D := (dC, dI)) (ci := 8) (v := .int 9) (C := RX8) (T := TX8) (N := 12) hx hb hts hinX8 hown hK hP 0 rfl rfl 1 (by decide) (hts (.fieldLink RX8 13 "MayRings" "tapeLength" "I") (List.mem_of_getElem? (i := 1) rfl)) (fun _ h9 => h9) rfl dX8_putOnTape_8 ?_
  refine lv_sipush (v := 1600) hx hb dX8_putOnTape_11 (by decide) ?_
  refine lv_icmp_ge (tgt := 40) hx hb dX8_putOnTape_14 (by decide) (fun cz => absurd cz (by decide)) (fun _ => ?_)
  refine lv_aload_n hx hb dX8_putOnTape_17 rfl (lv_at hl 1 rfl) ?_
  refine va_get (D := (dC, dI)) (ci := 8) (v := .ref h1) (C := RX8) (T := TX8) (N := 12) hx hb hts hinX8 hown hK hP 0 rfl rfl 0 (by decide) (hts (.fieldLink RX8 9 "MayRings" "tape" "[B") (List.mem_of_getElem? (i := 2) rfl)) (fun _ h9 => h9) rfl dX8_putOnTape_18 ?_
  refine lv_aload_n hx hb dX8_putOnTape_21 rfl (lv_at hl 1 rfl) ?_
  refine va_get (D := (dC, dI)) (ci := 8) (v := .int 9) (C := RX8) (T := TX8) (N := 12) hx hb hts hinX8 hown hK hP 0 rfl rfl 1 (by decide) (hts (.fieldLink RX8 13 "MayRings" "tapeLength" "I") (List.mem_of_getElem? (i := 1) rfl)) (fun _ h9 => h9) rfl dX8_putOnTape_22 ?_
  refine lv_iload_n hx hb dX8_putOnTape_25 rfl (lv_at hl 2 rfl) ?_
  refine lv_iload_n hx hb dX8_putOnTape_26 rfl (lv_at hl 0 rfl) ?_
  refine lv_iushr hx hb dX8_putOnTape_27 rfl ?_
  refine lv_i2b (v := (((p0.toUInt32 >>> ((16 : Int32).toUInt32 &&& Int32.toUInt32 31)).toInt32).toInt8.toInt32)) hx hb dX8_putOnTape_28 rfl ?_
  refine va_bast hx hb hK hP hD hS 1 0 rfl rfl (show ¬ (_ ∨ _) by decide) dX8_putOnTape_29 (fun H locs hP hD hS => ?_)
  have hP : va_P (dC, dI) vwCl [(h0, .inr (8, [.ref h1, .int 9, .ref h2, .ref h3, .ref h4, .ref h5, .ref h6, .ref h7, .ref h8, .ref h9, .ref h10, .ref h11])), (h1, .inl (cB, 1600, .inl (upd (upd g0 (8 : Int32).toNatClampNeg (vp_nar .byte (((p0.toUInt32 >>> ((24 : Int32).toUInt32 &&& Int32.toUInt32 31)).toInt32).toInt8.toInt32))) (9 : Int32).toNatClampNeg (vp_nar .byte (((p0.toUInt32 >>> ((16 : Int32).toUInt32 &&& Int32.toUInt32 31)).toInt32).toInt8.toInt32)))))] H := hP
  have hD : va_D A [(h0, .inr (8, [.ref h1, .int 9, .ref h2, .ref h3, .ref h4, .ref h5, .ref h6, .ref h7, .ref h8, .ref h9, .ref h10, .ref h11])), (h1, .inl (cB, 1600, .inl (upd (upd g0 (8 : Int32).toNatClampNeg (vp_nar .byte (((p0.toUInt32 >>> ((24 : Int32).toUInt32 &&& Int32.toUInt32 31)).toInt32).toInt8.toInt32))) (9 : Int32).toNatClampNeg (vp_nar .byte (((p0.toUInt32 >>> ((16 : Int32).toUInt32 &&& Int32.toUInt32 31)).toInt32).toInt8.toInt32)))))] := hD
  refine lv_aload_n hx hb dX8_putOnTape_30 rfl (lv_at hl 1 rfl) ?_
  refine lv_dup hx hb dX8_putOnTape_31 rfl ?_
  refine va_get (D := (dC, dI)) (ci := 8) (v := .int 9) (C := RX8) (T := TX8) (N := 12) hx hb hts hinX8 hown hK hP 0 rfl rfl 1 (by decide) (hts (.fieldLink RX8 13 "MayRings" "tapeLength" "I") (List.mem_of_getElem? (i := 1) rfl)) (fun _ h9 => h9) rfl dX8_putOnTape_32 ?_
  refine lv_iconst (v := 1) hx hb dX8_putOnTape_35 (by decide) ?_
  refine lv_iadd hx hb dX8_putOnTape_36 ?_
  refine tp_v (.int 10) (congrArg Value.int (by decide)) ?_
  refine va_put (D := (dC, dI)) (ci := 8) (v := .int 10) (ty := .int) (C := RX8) (T := TX8) (N := 12) hx hb hts hinX8 tyX8 tyX8_ok nmX8 hown hK hP hD hS 0 rfl rfl 1 (by decide) (hts (.fieldLink RX8 13 "MayRings" "tapeLength" "I") (List.mem_of_getElem? (i := 1) rfl)) (fun _ h9 => h9) rfl (by decide +kernel) rfl rfl (Nat.le_of_ble_eq_true rfl) dX8_putOnTape_37 (fun H locs hP hD hS => ?_)
  have hP : va_P (dC, dI) vwCl [(h0, .inr (8, [.ref h1, .int 10, .ref h2, .ref h3, .ref h4, .ref h5, .ref h6, .ref h7, .ref h8, .ref h9, .ref h10, .ref h11])), (h1, .inl (cB, 1600, .inl (upd (upd g0 (8 : Int32).toNatClampNeg (vp_nar .byte (((p0.toUInt32 >>> ((24 : Int32).toUInt32 &&& Int32.toUInt32 31)).toInt32).toInt8.toInt32))) (9 : Int32).toNatClampNeg (vp_nar .byte (((p0.toUInt32 >>> ((16 : Int32).toUInt32 &&& Int32.toUInt32 31)).toInt32).toInt8.toInt32)))))] H := hP
  have hD : va_D A [(h0, .inr (8, [.ref h1, .int 10, .ref h2, .ref h3, .ref h4, .ref h5, .ref h6, .ref h7, .ref h8, .ref h9, .ref h10, .ref h11])), (h1, .inl (cB, 1600, .inl (upd (upd g0 (8 : Int32).toNatClampNeg (vp_nar .byte (((p0.toUInt32 >>> ((24 : Int32).toUInt32 &&& Int32.toUInt32 31)).toInt32).toInt8.toInt32))) (9 : Int32).toNatClampNeg (vp_nar .byte (((p0.toUInt32 >>> ((16 : Int32).toUInt32 &&& Int32.toUInt32 31)).toInt32).toInt8.toInt32)))))] := hD
  refine lv_iinc (v := 8) (lv' := [(2, .int 8), (0, .ref h0), (1, .int p0)]) hx hb dX8_putOnTape_40 hl (k := 0) rfl (by decide) (by decide) rfl (fun ls hl => ?_)
  refine lv_goto (tgt := 3) hx hb dX8_putOnTape_43 (by decide) ?_
  refine lv_iload_n hx hb dX8_putOnTape_3 rfl (lv_at hl 0 rfl) ?_
  refine lv_if_lt (tgt := 46) hx hb dX8_putOnTape_4 (by decide) (fun cz => absurd cz (by decide)) (fun _ => ?_)
  refine lv_aload_n hx hb dX8_putOnTape_7 rfl (lv_at hl 1 rfl) ?_
  refine va_get (D := (dC, dI)) (ci := 8) (v := .int 10) (C := RX8) (T := TX8) (N := 12) hx hb hts hinX8 hown hK hP 0 rfl rfl 1 (by decide) (hts (.fieldLink RX8 13 "MayRings" "tapeLength" "I") (List.mem_of_getElem? (i := 1) rfl)) (fun _ h9 => h9) rfl dX8_putOnTape_8 ?_
  refine lv_sipush (v := 1600) hx hb dX8_putOnTape_11 (by decide) ?_
  refine lv_icmp_ge (tgt := 40) hx hb dX8_putOnTape_14 (by decide) (fun cz => absurd cz (by decide)) (fun _ => ?_)
  refine lv_aload_n hx hb dX8_putOnTape_17 rfl (lv_at hl 1 rfl) ?_
  refine va_get (D := (dC, dI)) (ci := 8) (v := .ref h1) (C := RX8) (T := TX8) (N := 12) hx hb hts hinX8 hown hK hP 0 rfl rfl 0 (by decide) (hts (.fieldLink RX8 9 "MayRings" "tape" "[B") (List.mem_of_getElem? (i := 2) rfl)) (fun _ h9 => h9) rfl dX8_putOnTape_18 ?_
  refine lv_aload_n hx hb dX8_putOnTape_21 rfl (lv_at hl 1 rfl) ?_
  refine va_get (D := (dC, dI)) (ci := 8) (v := .int 10) (C := RX8) (T := TX8) (N := 12) hx hb hts hinX8 hown hK hP 0 rfl rfl 1 (by decide) (hts (.fieldLink RX8 13 "MayRings" "tapeLength" "I") (List.mem_of_getElem? (i := 1) rfl)) (fun _ h9 => h9) rfl dX8_putOnTape_22 ?_
  refine lv_iload_n hx hb dX8_putOnTape_25 rfl (lv_at hl 2 rfl) ?_
  refine lv_iload_n hx hb dX8_putOnTape_26 rfl (lv_at hl 0 rfl) ?_
  refine lv_iushr hx hb dX8_putOnTape_27 rfl ?_
  refine lv_i2b (v := (((p0.toUInt32 >>> ((8 : Int32).toUInt32 &&& Int32.toUInt32 31)).toInt32).toInt8.toInt32)) hx hb dX8_putOnTape_28 rfl ?_
  refine va_bast hx hb hK hP hD hS 1 0 rfl rfl (show ¬ (_ ∨ _) by decide) dX8_putOnTape_29 (fun H locs hP hD hS => ?_)
  have hP : va_P (dC, dI) vwCl [(h0, .inr (8, [.ref h1, .int 10, .ref h2, .ref h3, .ref h4, .ref h5, .ref h6, .ref h7, .ref h8, .ref h9, .ref h10, .ref h11])), (h1, .inl (cB, 1600, .inl (upd (upd (upd g0 (8 : Int32).toNatClampNeg (vp_nar .byte (((p0.toUInt32 >>> ((24 : Int32).toUInt32 &&& Int32.toUInt32 31)).toInt32).toInt8.toInt32))) (9 : Int32).toNatClampNeg (vp_nar .byte (((p0.toUInt32 >>> ((16 : Int32).toUInt32 &&& Int32.toUInt32 31)).toInt32).toInt8.toInt32))) (10 : Int32).toNatClampNeg (vp_nar .byte (((p0.toUInt32 >>> ((8 : Int32).toUInt32 &&& Int32.toUInt32 31)).toInt32).toInt8.toInt32)))))] H := hP
  have hD : va_D A [(h0, .inr (8, [.ref h1, .int 10, .ref h2, .ref h3, .ref h4, .ref h5, .ref h6, .ref h7, .ref h8, .ref h9, .ref h10, .ref h11])), (h1, .inl (cB, 1600, .inl (upd (upd (upd g0 (8 : Int32).toNatClampNeg (vp_nar .byte (((p0.toUInt32 >>> ((24 : Int32).toUInt32 &&& Int32.toUInt32 31)).toInt32).toInt8.toInt32))) (9 : Int32).toNatClampNeg (vp_nar .byte (((p0.toUInt32 >>> ((16 : Int32).toUInt32 &&& Int32.toUInt32 31)).toInt32).toInt8.toInt32))) (10 : Int32).toNatClampNeg (vp_nar .byte (((p0.toUInt32 >>> ((8 : Int32).toUInt32 &&& Int32.toUInt32 31)).toInt32).toInt8.toInt32)))))] := hD
  refine lv_aload_n hx hb dX8_putOnTape_30 rfl (lv_at hl 1 rfl) ?_
  refine lv_dup hx hb dX8_putOnTape_31 rfl ?_
  refine va_get (D := (dC, dI)) (ci := 8) (v := .int 10) (C := RX8) (T := TX8) (N := 12) hx hb hts hinX8 hown hK hP 0 rfl rfl 1 (by decide) (hts (.fieldLink RX8 13 "MayRings" "tapeLength" "I") (List.mem_of_getElem? (i := 1) rfl)) (fun _ h9 => h9) rfl dX8_putOnTape_32 ?_
  refine lv_iconst (v := 1) hx hb dX8_putOnTape_35 (by decide) ?_
  refine lv_iadd hx hb dX8_putOnTape_36 ?_
  refine tp_v (.int 11) (congrArg Value.int (by decide)) ?_
  refine va_put (D := (dC, dI)) (ci := 8) (v := .int 11) (ty := .int) (C := RX8) (T := TX8) (N := 12) hx hb hts hinX8 tyX8 tyX8_ok nmX8 hown hK hP hD hS 0 rfl rfl 1 (by decide) (hts (.fieldLink RX8 13 "MayRings" "tapeLength" "I") (List.mem_of_getElem? (i := 1) rfl)) (fun _ h9 => h9) rfl (by decide +kernel) rfl rfl (Nat.le_of_ble_eq_true rfl) dX8_putOnTape_37 (fun H locs hP hD hS => ?_)
  have hP : va_P (dC, dI) vwCl [(h0, .inr (8, [.ref h1, .int 11, .ref h2, .ref h3, .ref h4, .ref h5, .ref h6, .ref h7, .ref h8, .ref h9, .ref h10, .ref h11])), (h1, .inl (cB, 1600, .inl (upd (upd (upd g0 (8 : Int32).toNatClampNeg (vp_nar .byte (((p0.toUInt32 >>> ((24 : Int32).toUInt32 &&& Int32.toUInt32 31)).toInt32).toInt8.toInt32))) (9 : Int32).toNatClampNeg (vp_nar .byte (((p0.toUInt32 >>> ((16 : Int32).toUInt32 &&& Int32.toUInt32 31)).toInt32).toInt8.toInt32))) (10 : Int32).toNatClampNeg (vp_nar .byte (((p0.toUInt32 >>> ((8 : Int32).toUInt32 &&& Int32.toUInt32 31)).toInt32).toInt8.toInt32)))))] H := hP
  have hD : va_D A [(h0, .inr (8, [.ref h1, .int 11, .ref h2, .ref h3, .ref h4, .ref h5, .ref h6, .ref h7, .ref h8, .ref h9, .ref h10, .ref h11])), (h1, .inl (cB, 1600, .inl (upd (upd (upd g0 (8 : Int32).toNatClampNeg (vp_nar .byte (((p0.toUInt32 >>> ((24 : Int32).toUInt32 &&& Int32.toUInt32 31)).toInt32).toInt8.toInt32))) (9 : Int32).toNatClampNeg (vp_nar .byte (((p0.toUInt32 >>> ((16 : Int32).toUInt32 &&& Int32.toUInt32 31)).toInt32).toInt8.toInt32))) (10 : Int32).toNatClampNeg (vp_nar .byte (((p0.toUInt32 >>> ((8 : Int32).toUInt32 &&& Int32.toUInt32 31)).toInt32).toInt8.toInt32)))))] := hD
  refine lv_iinc (v := 0) (lv' := [(2, .int 0), (0, .ref h0), (1, .int p0)]) hx hb dX8_putOnTape_40 hl (k := 0) rfl (by decide) (by decide) rfl (fun ls hl => ?_)
  refine lv_goto (tgt := 3) hx hb dX8_putOnTape_43 (by decide) ?_
  refine lv_iload_n hx hb dX8_putOnTape_3 rfl (lv_at hl 0 rfl) ?_
  refine lv_if_lt (tgt := 46) hx hb dX8_putOnTape_4 (by decide) (fun cz => absurd cz (by decide)) (fun _ => ?_)
  refine lv_aload_n hx hb dX8_putOnTape_7 rfl (lv_at hl 1 rfl) ?_
  refine va_get (D := (dC, dI)) (ci := 8) (v := .int 11) (C := RX8) (T := TX8) (N := 12) hx hb hts hinX8 hown hK hP 0 rfl rfl 1 (by decide) (hts (.fieldLink RX8 13 "MayRings" "tapeLength" "I") (List.mem_of_getElem? (i := 1) rfl)) (fun _ h9 => h9) rfl dX8_putOnTape_8 ?_
  refine lv_sipush (v := 1600) hx hb dX8_putOnTape_11 (by decide) ?_
  refine lv_icmp_ge (tgt := 40) hx hb dX8_putOnTape_14 (by decide) (fun cz => absurd cz (by decide)) (fun _ => ?_)
  refine lv_aload_n hx hb dX8_putOnTape_17 rfl (lv_at hl 1 rfl) ?_
  refine va_get (D := (dC, dI)) (ci := 8) (v := .ref h1) (C := RX8) (T := TX8) (N := 12) hx hb hts hinX8 hown hK hP 0 rfl rfl 0 (by decide) (hts (.fieldLink RX8 9 "MayRings" "tape" "[B") (List.mem_of_getElem? (i := 2) rfl)) (fun _ h9 => h9) rfl dX8_putOnTape_18 ?_
  refine lv_aload_n hx hb dX8_putOnTape_21 rfl (lv_at hl 1 rfl) ?_
  refine va_get (D := (dC, dI)) (ci := 8) (v := .int 11) (C := RX8) (T := TX8) (N := 12) hx hb hts hinX8 hown hK hP 0 rfl rfl 1 (by decide) (hts (.fieldLink RX8 13 "MayRings" "tapeLength" "I") (List.mem_of_getElem? (i := 1) rfl)) (fun _ h9 => h9) rfl dX8_putOnTape_22 ?_
  refine lv_iload_n hx hb dX8_putOnTape_25 rfl (lv_at hl 2 rfl) ?_
  refine lv_iload_n hx hb dX8_putOnTape_26 rfl (lv_at hl 0 rfl) ?_
  refine lv_iushr hx hb dX8_putOnTape_27 rfl ?_
  refine lv_i2b (v := (((p0.toUInt32 >>> ((0 : Int32).toUInt32 &&& Int32.toUInt32 31)).toInt32).toInt8.toInt32)) hx hb dX8_putOnTape_28 rfl ?_
  refine va_bast hx hb hK hP hD hS 1 0 rfl rfl (show ¬ (_ ∨ _) by decide) dX8_putOnTape_29 (fun H locs hP hD hS => ?_)
  have hP : va_P (dC, dI) vwCl [(h0, .inr (8, [.ref h1, .int 11, .ref h2, .ref h3, .ref h4, .ref h5, .ref h6, .ref h7, .ref h8, .ref h9, .ref h10, .ref h11])), (h1, .inl (cB, 1600, .inl (upd (upd (upd (upd g0 (8 : Int32).toNatClampNeg (vp_nar .byte (((p0.toUInt32 >>> ((24 : Int32).toUInt32 &&& Int32.toUInt32 31)).toInt32).toInt8.toInt32))) (9 : Int32).toNatClampNeg (vp_nar .byte (((p0.toUInt32 >>> ((16 : Int32).toUInt32 &&& Int32.toUInt32 31)).toInt32).toInt8.toInt32))) (10 : Int32).toNatClampNeg (vp_nar .byte (((p0.toUInt32 >>> ((8 : Int32).toUInt32 &&& Int32.toUInt32 31)).toInt32).toInt8.toInt32))) (11 : Int32).toNatClampNeg (vp_nar .byte (((p0.toUInt32 >>> ((0 : Int32).toUInt32 &&& Int32.toUInt32 31)).toInt32).toInt8.toInt32)))))] H := hP
  have hD : va_D A [(h0, .inr (8, [.ref h1, .int 11, .ref h2, .ref h3, .ref h4, .ref h5, .ref h6, .ref h7, .ref h8, .ref h9, .ref h10, .ref h11])), (h1, .inl (cB, 1600, .inl (upd (upd (upd (upd g0 (8 : Int32).toNatClampNeg (vp_nar .byte (((p0.toUInt32 >>> ((24 : Int32).toUInt32 &&& Int32.toUInt32 31)).toInt32).toInt8.toInt32))) (9 : Int32).toNatClampNeg (vp_nar .byte (((p0.toUInt32 >>> ((16 : Int32).toUInt32 &&& Int32.toUInt32 31)).toInt32).toInt8.toInt32))) (10 : Int32).toNatClampNeg (vp_nar .byte (((p0.toUInt32 >>> ((8 : Int32).toUInt32 &&& Int32.toUInt32 31)).toInt32).toInt8.toInt32))) (11 : Int32).toNatClampNeg (vp_nar .byte (((p0.toUInt32 >>> ((0 : Int32).toUInt32 &&& Int32.toUInt32 31)).toInt32).toInt8.toInt32)))))] := hD
  refine lv_aload_n hx hb dX8_putOnTape_30 rfl (lv_at hl 1 rfl) ?_
  refine lv_dup hx hb dX8_putOnTape_31 rfl ?_
  refine va_get (D := (dC, dI)) (ci := 8) (v := .int 11) (C := RX8) (T := TX8) (N := 12) hx hb hts hinX8 hown hK hP 0 rfl rfl 1 (by decide) (hts (.fieldLink RX8 13 "MayRings" "tapeLength" "I") (List.mem_of_getElem? (i := 1) rfl)) (fun _ h9 => h9) rfl dX8_putOnTape_32 ?_
  refine lv_iconst (v := 1) hx hb dX8_putOnTape_35 (by decide) ?_
  refine lv_iadd hx hb dX8_putOnTape_36 ?_
  refine tp_v (.int 12) (congrArg Value.int (by decide)) ?_
  refine va_put (D := (dC, dI)) (ci := 8) (v := .int 12) (ty := .int) (C := RX8) (T := TX8) (N := 12) hx hb hts hinX8 tyX8 tyX8_ok nmX8 hown hK hP hD hS 0 rfl rfl 1 (by decide) (hts (.fieldLink RX8 13 "MayRings" "tapeLength" "I") (List.mem_of_getElem? (i := 1) rfl)) (fun _ h9 => h9) rfl (by decide +kernel) rfl rfl (Nat.le_of_ble_eq_true rfl) dX8_putOnTape_37 (fun H locs hP hD hS => ?_)
  have hP : va_P (dC, dI) vwCl [(h0, .inr (8, [.ref h1, .int 12, .ref h2, .ref h3, .ref h4, .ref h5, .ref h6, .ref h7, .ref h8, .ref h9, .ref h10, .ref h11])), (h1, .inl (cB, 1600, .inl (upd (upd (upd (upd g0 (8 : Int32).toNatClampNeg (vp_nar .byte (((p0.toUInt32 >>> ((24 : Int32).toUInt32 &&& Int32.toUInt32 31)).toInt32).toInt8.toInt32))) (9 : Int32).toNatClampNeg (vp_nar .byte (((p0.toUInt32 >>> ((16 : Int32).toUInt32 &&& Int32.toUInt32 31)).toInt32).toInt8.toInt32))) (10 : Int32).toNatClampNeg (vp_nar .byte (((p0.toUInt32 >>> ((8 : Int32).toUInt32 &&& Int32.toUInt32 31)).toInt32).toInt8.toInt32))) (11 : Int32).toNatClampNeg (vp_nar .byte (((p0.toUInt32 >>> ((0 : Int32).toUInt32 &&& Int32.toUInt32 31)).toInt32).toInt8.toInt32)))))] H := hP
  have hD : va_D A [(h0, .inr (8, [.ref h1, .int 12, .ref h2, .ref h3, .ref h4, .ref h5, .ref h6, .ref h7, .ref h8, .ref h9, .ref h10, .ref h11])), (h1, .inl (cB, 1600, .inl (upd (upd (upd (upd g0 (8 : Int32).toNatClampNeg (vp_nar .byte (((p0.toUInt32 >>> ((24 : Int32).toUInt32 &&& Int32.toUInt32 31)).toInt32).toInt8.toInt32))) (9 : Int32).toNatClampNeg (vp_nar .byte (((p0.toUInt32 >>> ((16 : Int32).toUInt32 &&& Int32.toUInt32 31)).toInt32).toInt8.toInt32))) (10 : Int32).toNatClampNeg (vp_nar .byte (((p0.toUInt32 >>> ((8 : Int32).toUInt32 &&& Int32.toUInt32 31)).toInt32).toInt8.toInt32))) (11 : Int32).toNatClampNeg (vp_nar .byte (((p0.toUInt32 >>> ((0 : Int32).toUInt32 &&& Int32.toUInt32 31)).toInt32).toInt8.toInt32)))))] := hD
  refine lv_iinc (v := (-8)) (lv' := [(2, .int (-8)), (0, .ref h0), (1, .int p0)]) hx hb dX8_putOnTape_40 hl (k := 0) rfl (by decide) (by decide) rfl (fun ls hl => ?_)
  refine lv_goto (tgt := 3) hx hb dX8_putOnTape_43 (by decide) ?_
  refine lv_iload_n hx hb dX8_putOnTape_3 rfl (lv_at hl 0 rfl) ?_
  refine lv_if_lt (tgt := 46) hx hb dX8_putOnTape_4 (by decide) (fun _ => ?_) (fun cz => absurd (by decide) cz)
  have hP9 := hP.sub (ws' := [(h0, .inr (8, [.ref h1, .int 12, .ref h2, .ref h3, .ref h4, .ref h5, .ref h6, .ref h7, .ref h8, .ref h9, .ref h10, .ref h11])), (h1, .inl (cB, 1600, .inl (upd (upd (upd (upd g0 (8 : Int32).toNatClampNeg (vp_nar .byte (((p0.toUInt32 >>> ((24 : Int32).toUInt32 &&& Int32.toUInt32 31)).toInt32).toInt8.toInt32))) (9 : Int32).toNatClampNeg (vp_nar .byte (((p0.toUInt32 >>> ((16 : Int32).toUInt32 &&& Int32.toUInt32 31)).toInt32).toInt8.toInt32))) (10 : Int32).toNatClampNeg (vp_nar .byte (((p0.toUInt32 >>> ((8 : Int32).toUInt32 &&& Int32.toUInt32 31)).toInt32).toInt8.toInt32))) (11 : Int32).toNatClampNeg (vp_nar .byte (((p0.toUInt32 >>> ((0 : Int32).toUInt32 &&& Int32.toUInt32 31)).toInt32).toInt8.toInt32)))))]) [0, 1] rfl
  have hD9 := hD.sub (ws' := [(h0, .inr (8, [.ref h1, .int 12, .ref h2, .ref h3, .ref h4, .ref h5, .ref h6, .ref h7, .ref h8, .ref h9, .ref h10, .ref h11])), (h1, .inl (cB, 1600, .inl (upd (upd (upd (upd g0 (8 : Int32).toNatClampNeg (vp_nar .byte (((p0.toUInt32 >>> ((24 : Int32).toUInt32 &&& Int32.toUInt32 31)).toInt32).toInt8.toInt32))) (9 : Int32).toNatClampNeg (vp_nar .byte (((p0.toUInt32 >>> ((16 : Int32).toUInt32 &&& Int32.toUInt32 31)).toInt32).toInt8.toInt32))) (10 : Int32).toNatClampNeg (vp_nar .byte (((p0.toUInt32 >>> ((8 : Int32).toUInt32 &&& Int32.toUInt32 31)).toInt32).toInt8.toInt32))) (11 : Int32).toNatClampNeg (vp_nar .byte (((p0.toUInt32 >>> ((0 : Int32).toUInt32 &&& Int32.toUInt32 31)).toInt32).toInt8.toInt32)))))]) [0, 1] (by decide) rfl
  exact W.vret hx hb hr (fun t ht hW => ⟨⟨(), rfl, trivial, ⟨(upd (upd (upd (upd g0 (8 : Int32).toNatClampNeg (vp_nar .byte (((p0.toUInt32 >>> ((24 : Int32).toUInt32 &&& Int32.toUInt32 31)).toInt32).toInt8.toInt32))) (9 : Int32).toNatClampNeg (vp_nar .byte (((p0.toUInt32 >>> ((16 : Int32).toUInt32 &&& Int32.toUInt32 31)).toInt32).toInt8.toInt32))) (10 : Int32).toNatClampNeg (vp_nar .byte (((p0.toUInt32 >>> ((8 : Int32).toUInt32 &&& Int32.toUInt32 31)).toInt32).toInt8.toInt32))) (11 : Int32).toNatClampNeg (vp_nar .byte (((p0.toUInt32 >>> ((0 : Int32).toUInt32 &&& Int32.toUInt32 31)).toInt32).toInt8.toInt32))), by rw [ht]; exact hP9, hD9⟩⟩, hS.F ht⟩) hS.2.2 dX8_putOnTape_46
def v_X8_putOnTape_4 : List Cond := Cond.code yX8_putOnTape cX8_putOnTape 3 none :: ([Cond.fieldLink RX8 13 "MayRings" "tapeLength" "I", Cond.fieldLink RX8 9 "MayRings" "tape" "[B"] ++ (wsX80 ++ ([])))
theorem k_X8_putOnTape_4 : GoodIn lw_tbl v_X8_putOnTape_4 := gd_c (List.mem_of_getElem? (i := 575) (by decide +kernel)) rfl (goodIn_app (gd_c (List.mem_of_getElem? (i := 532) (by decide +kernel)) rfl (gd_c (List.mem_of_getElem? (i := 531) (by decide +kernel)) rfl (gd_nil))) (goodIn_app kfX8 (gd_nil)))
set_option maxHeartbeats 600000 in
set_option maxRecDepth 100000 in
theorem c_X8_putOnTape_4 (l : Launch) (dC : Nat → ClassId) (dI : Nat → Nat → Nat) (cB cI cJ cZ cP : ClassId) (h0 : Nat) (p0 : Int32) (h1 : Nat) (h2 : Nat) (h3 : Nat) (h4 : Nat) (h5 : Nat) (h6 : Nat) (h7 : Nat) (h8 : Nat) (h9 : Nat) (h10 : Nat) (h11 : Nat) (g0 : Nat → Int32) (sz : Nat) : Met l yX8_putOnTape v_X8_putOnTape_4 ({ frames := 0, cells := 0, slots := 0, locals := 0 }) (va_Pc [.ref h0, .int p0] (fun U => U.heap.size = sz ∧ va_P (dC, dI) vwCl [(h0, .inr (8, [.ref h1, .int 12, .ref h2, .ref h3, .ref h4, .ref h5, .ref h6, .ref h7, .ref h8, .ref h9, .ref h10, .ref h11])), (h1, .inl (cB, 1600, .inl g0))] U.heap ∧ va_K (dC, dI) vwCl (ty5 cB cI cJ cZ cP) U ∧ va_D (fun _ => True) [(h0, .inr (8, [.ref h1, .int 12, .ref h2, .ref h3, .ref h4, .ref h5, .ref h6, .ref h7, .ref h8, .ref h9, .ref h10, .ref h11])), (h1, .inl (cB, 1600, .inl g0))])) (va_Qv (fun _ : Unit => True) (fun _ t => ∃ (z1000 : Nat → Int32), va_P (dC, dI) vwCl [(h0, .inr (8, [.ref h1, .int 16, .ref h2, .ref h3, .ref h4, .ref h5, .ref h6, .ref h7, .ref h8, .ref h9, .ref h10, .ref h11])), (h1, .inl (cB, 1600, .inl z1000))] t.heap ∧ va_D (va_A [(h0, .inr (8, [.ref h1, .int 12, .ref h2, .ref h3, .ref h4, .ref h5, .ref h6, .ref h7, .ref h8, .ref h9, .ref h10, .ref h11])), (h1, .inl (cB, 1600, .inl g0))] sz) [(h0, .inr (8, [.ref h1, .int 16, .ref h2, .ref h3, .ref h4, .ref h5, .ref h6, .ref h7, .ref h8, .ref h9, .ref h10, .ref h11])), (h1, .inl (cB, 1600, .inl z1000))]) (va_A [(h0, .inr (8, [.ref h1, .int 12, .ref h2, .ref h3, .ref h4, .ref h5, .ref h6, .ref h7, .ref h8, .ref h9, .ref h10, .ref h11])), (h1, .inl (cB, 1600, .inl g0))] sz)) 0 0 (va_A [(h0, .inr (8, [.ref h1, .int 12, .ref h2, .ref h3, .ref h4, .ref h5, .ref h6, .ref h7, .ref h8, .ref h9, .ref h10, .ref h11])), (h1, .inl (cB, 1600, .inl g0))] sz) := by
  refine Met.ofW (cc := cX8_putOnTape) (maxL := 3) (ret := none) (by decide) rfl ?_
  intro p e s m args below meth c s₁ B hml hv
  obtain ⟨rfl, hsz, hP, hK, hD0⟩ := hv
  have hx := B.exec
  have hb := B.bytes
  have hr := B.returns
  have hts := atoms_spec (ws := v_X8_putOnTape_4) B.pre
  have hown : s.vm.findClass RX8 = some m.cls := findClass_of_methodNamed B.named
  have hlocks := B.notSynchronized
  have hinX8 : ∀ w ∈ wsX80, w ∈ v_X8_putOnTape_4 := fun _ h => List.mem_cons_of_mem _ (List.mem_append_right _ (List.mem_append_left _ h))
  subst hsz
  have hD := hD0.self (sz := s.heap.size)
  generalize hAe : va_A [(h0, .inr (8, [.ref h1, .int 12, .ref h2, .ref h3, .ref h4, .ref h5, .ref h6, .ref h7, .ref h8, .ref h9, .ref h10, .ref h11])), (h1, .inl (cB, 1600, .inl g0))] s.heap.size = A at hD ⊢
  have hA : ∀ q : Nat, s.heap.size ≤ q → A q := fun q h => by rw [← hAe]; exact Or.inr h
  have hP : va_P (dC, dI) vwCl [(h0, .inr (8, [.ref h1, .int 12, .ref h2, .ref h3, .ref h4, .ref h5, .ref h6, .ref h7, .ref h8, .ref h9, .ref h10, .ref h11])), (h1, .inl (cB, 1600, .inl g0))] s.heap := hP
  have hl := lv_entry ([.ref h0, .int p0]) (n := 3) (Nat.le_of_ble_eq_true rfl)
  rw [lg_entry_eq]
  generalize (lg_sl ([.ref h0, .int p0]) ++ List.replicate (3 - (lg_sl ([.ref h0, .int p0])).length) Slot.unset).toArray = ls at hl ⊢
  have hl : lv_has ls 3 [(0, .ref h0), (1, .int p0)] := hl
  refine W_gen (A := A) hP (fun H locs hP hS => ?_)
  refine lv_bipush (v := 24) hx hb dX8_putOnTape_0 (by decide) ?_
  refine lv_istore_n (lv' := [(2, .int 24), (0, .ref h0), (1, .int p0)]) hx hb dX8_putOnTape_2 rfl hl (by decide) rfl (fun ls hl => ?_)
  refine lv_iload_n hx hb dX8_putOnTape_3 rfl (lv_at hl 0 rfl) ?_
  refine lv_if_lt (tgt := 46) hx hb dX8_putOnTape_4 (by decide) (fun cz => absurd cz (by decide)) (fun _ => ?_)
  refine lv_aload_n hx hb dX8_putOnTape_7 rfl (lv_at hl 1 rfl) ?_
  refine va_get (D := (dC, dI)) (ci := 8) (v := .int 12) (C := RX8) (T := TX8) (N := 12) hx hb hts hinX8 hown hK hP 0 rfl rfl 1 (by decide) (hts (.fieldLink RX8 13 "MayRings" "tapeLength" "I") (List.mem_of_getElem? (i := 1) rfl)) (fun _ h9 => h9) rfl dX8_putOnTape_8 ?_
  refine lv_sipush (v := 1600) hx hb dX8_putOnTape_11 (by decide) ?_
  refine lv_icmp_ge (tgt := 40) hx hb dX8_putOnTape_14 (by decide) (fun cz => absurd cz (by decide)) (fun _ => ?_)
  refine lv_aload_n hx hb dX8_putOnTape_17 rfl (lv_at hl 1 rfl) ?_
  refine va_get (D := (dC, dI)) (ci := 8) (v := .ref h1) (C := RX8) (T := TX8) (N := 12) hx hb hts hinX8 hown hK hP 0 rfl rfl 0 (by decide) (hts (.fieldLink RX8 9 "MayRings" "tape" "[B") (List.mem_of_getElem? (i := 2) rfl)) (fun _ h9 => h9) rfl dX8_putOnTape_18 ?_
  refine lv_aload_n hx hb dX8_putOnTape_21 rfl (lv_at hl 1 rfl) ?_
  refine va_get (D := (dC, dI)) (ci := 8) (v := .int 12) (C := RX8) (T := TX8) (N := 12) hx hb hts hinX8 hown hK hP 0 rfl rfl 1 (by decide) (hts (.fieldLink RX8 13 "MayRings" "tapeLength" "I") (List.mem_of_getElem? (i := 1) rfl)) (fun _ h9 => h9) rfl dX8_putOnTape_22 ?_
  refine lv_iload_n hx hb dX8_putOnTape_25 rfl (lv_at hl 2 rfl) ?_
  refine lv_iload_n hx hb dX8_putOnTape_26 rfl (lv_at hl 0 rfl) ?_
  refine lv_iushr hx hb dX8_putOnTape_27 rfl ?_
  refine lv_i2b (v := (((p0.toUInt32 >>> ((24 : Int32).toUInt32 &&& Int32.toUInt32 31)).toInt32).toInt8.toInt32)) hx hb dX8_putOnTape_28 rfl ?_
  refine va_bast hx hb hK hP hD hS 1 0 rfl rfl (show ¬ (_ ∨ _) by decide) dX8_putOnTape_29 (fun H locs hP hD hS => ?_)
  have hP : va_P (dC, dI) vwCl [(h0, .inr (8, [.ref h1, .int 12, .ref h2, .ref h3, .ref h4, .ref h5, .ref h6, .ref h7, .ref h8, .ref h9, .ref h10, .ref h11])), (h1, .inl (cB, 1600, .inl (upd g0 (12 : Int32).toNatClampNeg (vp_nar .byte (((p0.toUInt32 >>> ((24 : Int32).toUInt32 &&& Int32.toUInt32 31)).toInt32).toInt8.toInt32)))))] H := hP
  have hD : va_D A [(h0, .inr (8, [.ref h1, .int 12, .ref h2, .ref h3, .ref h4, .ref h5, .ref h6, .ref h7, .ref h8, .ref h9, .ref h10, .ref h11])), (h1, .inl (cB, 1600, .inl (upd g0 (12 : Int32).toNatClampNeg (vp_nar .byte (((p0.toUInt32 >>> ((24 : Int32).toUInt32 &&& Int32.toUInt32 31)).toInt32).toInt8.toInt32)))))] := hD
  refine lv_aload_n hx hb dX8_putOnTape_30 rfl (lv_at hl 1 rfl) ?_
  refine lv_dup hx hb dX8_putOnTape_31 rfl ?_
  refine va_get (D := (dC, dI)) (ci := 8) (v := .int 12) (C := RX8) (T := TX8) (N := 12) hx hb hts hinX8 hown hK hP 0 rfl rfl 1 (by decide) (hts (.fieldLink RX8 13 "MayRings" "tapeLength" "I") (List.mem_of_getElem? (i := 1) rfl)) (fun _ h9 => h9) rfl dX8_putOnTape_32 ?_
  refine lv_iconst (v := 1) hx hb dX8_putOnTape_35 (by decide) ?_
  refine lv_iadd hx hb dX8_putOnTape_36 ?_
  refine tp_v (.int 13) (congrArg Value.int (by decide)) ?_
  refine va_put (D := (dC, dI)) (ci := 8) (v := .int 13) (ty := .int) (C := RX8) (T := TX8) (N := 12) hx hb hts hinX8 tyX8 tyX8_ok nmX8 hown hK hP hD hS 0 rfl rfl 1 (by decide) (hts (.fieldLink RX8 13 "MayRings" "tapeLength" "I") (List.mem_of_getElem? (i := 1) rfl)) (fun _ h9 => h9) rfl (by decide +kernel) rfl rfl (Nat.le_of_ble_eq_true rfl) dX8_putOnTape_37 (fun H locs hP hD hS => ?_)
  have hP : va_P (dC, dI) vwCl [(h0, .inr (8, [.ref h1, .int 13, .ref h2, .ref h3, .ref h4, .ref h5, .ref h6, .ref h7, .ref h8, .ref h9, .ref h10, .ref h11])), (h1, .inl (cB, 1600, .inl (upd g0 (12 : Int32).toNatClampNeg (vp_nar .byte (((p0.toUInt32 >>> ((24 : Int32).toUInt32 &&& Int32.toUInt32 31)).toInt32).toInt8.toInt32)))))] H := hP
  have hD : va_D A [(h0, .inr (8, [.ref h1, .int 13, .ref h2, .ref h3, .ref h4, .ref h5, .ref h6, .ref h7, .ref h8, .ref h9, .ref h10, .ref h11])), (h1, .inl (cB, 1600, .inl (upd g0 (12 : Int32).toNatClampNeg (vp_nar .byte (((p0.toUInt32 >>> ((24 : Int32).toUInt32 &&& Int32.toUInt32 31)).toInt32).toInt8.toInt32)))))] := hD
  refine lv_iinc (v := 16) (lv' := [(2, .int 16), (0, .ref h0), (1, .int p0)]) hx hb dX8_putOnTape_40 hl (k := 0) rfl (by decide) (by decide) rfl (fun ls hl => ?_)
  refine lv_goto (tgt := 3) hx hb dX8_putOnTape_43 (by decide) ?_
  refine lv_iload_n hx hb dX8_putOnTape_3 rfl (lv_at hl 0 rfl) ?_
  refine lv_if_lt (tgt := 46) hx hb dX8_putOnTape_4 (by decide) (fun cz => absurd cz (by decide)) (fun _ => ?_)
  refine lv_aload_n hx hb dX8_putOnTape_7 rfl (lv_at hl 1 rfl) ?_
  refine va_get (D := (dC, dI)) (ci := 8) (v := .int 13) (C := RX8) (T := TX8) (N := 12) hx hb hts hinX8 hown hK hP 0 rfl rfl 1 (by decide) (hts (.fieldLink RX8 13 "MayRings" "tapeLength" "I") (List.mem_of_getElem? (i := 1) rfl)) (fun _ h9 => h9) rfl dX8_putOnTape_8 ?_
  refine lv_sipush (v := 1600) hx hb dX8_putOnTape_11 (by decide) ?_
  refine lv_icmp_ge (tgt := 40) hx hb dX8_putOnTape_14 (by decide) (fun cz => absurd cz (by decide)) (fun _ => ?_)
  refine lv_aload_n hx hb dX8_putOnTape_17 rfl (lv_at hl 1 rfl) ?_
  refine va_get (D := (dC, dI)) (ci := 8) (v := .ref h1) (C := RX8) (T := TX8) (N := 12) hx hb hts hinX8 hown hK hP 0 rfl rfl 0 (by decide) (hts (.fieldLink RX8 9 "MayRings" "tape" "[B") (List.mem_of_getElem? (i := 2) rfl)) (fun _ h9 => h9) rfl dX8_putOnTape_18 ?_
  refine lv_aload_n hx hb dX8_putOnTape_21 rfl (lv_at hl 1 rfl) ?_
  refine va_get (D := (dC, dI)) (ci := 8) (v := .int 13) (C := RX8) (T := TX8) (N := 12) hx hb hts hinX8 hown hK hP 0 rfl rfl 1 (by decide) (hts (.fieldLink RX8 13 "MayRings" "tapeLength" "I") (List.mem_of_getElem? (i := 1) rfl)) (fun _ h9 => h9) rfl dX8_putOnTape_22 ?_
  refine lv_iload_n hx hb dX8_putOnTape_25 rfl (lv_at hl 2 rfl) ?_
  refine lv_iload_n hx hb dX8_putOnTape_26 rfl (lv_at hl 0 rfl) ?_
  refine lv_iushr hx hb dX8_putOnTape_27 rfl ?_
  refine lv_i2b (v := (((p0.toUInt32 >>> ((16 : Int32).toUInt32 &&& Int32.toUInt32 31)).toInt32).toInt8.toInt32)) hx hb dX8_putOnTape_28 rfl ?_
  refine va_bast hx hb hK hP hD hS 1 0 rfl rfl (show ¬ (_ ∨ _) by decide) dX8_putOnTape_29 (fun H locs hP hD hS => ?_)
  have hP : va_P (dC, dI) vwCl [(h0, .inr (8, [.ref h1, .int 13, .ref h2, .ref h3, .ref h4, .ref h5, .ref h6, .ref h7, .ref h8, .ref h9, .ref h10, .ref h11])), (h1, .inl (cB, 1600, .inl (upd (upd g0 (12 : Int32).toNatClampNeg (vp_nar .byte (((p0.toUInt32 >>> ((24 : Int32).toUInt32 &&& Int32.toUInt32 31)).toInt32).toInt8.toInt32))) (13 : Int32).toNatClampNeg (vp_nar .byte (((p0.toUInt32 >>> ((16 : Int32).toUInt32 &&& Int32.toUInt32 31)).toInt32).toInt8.toInt32)))))] H := hP
  have hD : va_D A [(h0, .inr (8, [.ref h1, .int 13, .ref h2, .ref h3, .ref h4, .ref h5, .ref h6, .ref h7, .ref h8, .ref h9, .ref h10, .ref h11])), (h1, .inl (cB, 1600, .inl (upd (upd g0 (12 : Int32).toNatClampNeg (vp_nar .byte (((p0.toUInt32 >>> ((24 : Int32).toUInt32 &&& Int32.toUInt32 31)).toInt32).toInt8.toInt32))) (13 : Int32).toNatClampNeg (vp_nar .byte (((p0.toUInt32 >>> ((16 : Int32).toUInt32 &&& Int32.toUInt32 31)).toInt32).toInt8.toInt32)))))] := hD
  refine lv_aload_n hx hb dX8_putOnTape_30 rfl (lv_at hl 1 rfl) ?_
  refine lv_dup hx hb dX8_putOnTape_31 rfl ?_
  refine va_get (D := (dC, dI)) (ci := 8) (v := .int 13) (C := RX8) (T := TX8) (N := 12) hx hb hts hinX8 hown hK hP 0 rfl rfl 1 (by decide) (hts (.fieldLink RX8 13 "MayRings" "tapeLength" "I") (List.mem_of_getElem? (i := 1) rfl)) (fun _ h9 => h9) rfl dX8_putOnTape_32 ?_
  refine lv_iconst (v := 1) hx hb dX8_putOnTape_35 (by decide) ?_
  refine lv_iadd hx hb dX8_putOnTape_36 ?_
  refine tp_v (.int 14) (congrArg Value.int (by decide)) ?_
  refine va_put (D := (dC, dI)) (ci := 8) (v := .int 14) (ty := .int) (C := RX8) (T := TX8) (N := 12) hx hb hts hinX8 tyX8 tyX8_ok nmX8 hown hK hP hD hS 0 rfl rfl 1 (by decide) (hts (.fieldLink RX8 13 "MayRings" "tapeLength" "I") (List.mem_of_getElem? (i := 1) rfl)) (fun _ h9 => h9) rfl (by decide +kernel) rfl rfl (Nat.le_of_ble_eq_true rfl) dX8_putOnTape_37 (fun H locs hP hD hS => ?_)
  have hP : va_P (dC, dI) vwCl [(h0, .inr (8, [.ref h1, .int 14, .ref h2, .ref h3, .ref h4, .ref h5, .ref h6, .ref h7, .ref h8, .ref h9, .ref h10, .ref h11])), (h1, .inl (cB, 1600, .inl (upd (upd g0 (12 : Int32).toNatClampNeg (vp_nar .byte (((p0.toUInt32 >>> ((24 : Int32).toUInt32 &&& Int32.toUInt32 31)).toInt32).toInt8.toInt32))) (13 : Int32).toNatClampNeg (vp_nar .byte (((p0.toUInt32 >>> ((16 : Int32).toUInt32 &&& Int32.toUInt32 31)).toInt32).toInt8.toInt32)))))] H := hP
  have hD : va_D A [(h0, .inr (8, [.ref h1, .int 14, .ref h2, .ref h3, .ref h4, .ref h5, .ref h6, .ref h7, .ref h8, .ref h9, .ref h10, .ref h11])), (h1, .inl (cB, 1600, .inl (upd (upd g0 (12 : Int32).toNatClampNeg (vp_nar .byte (((p0.toUInt32 >>> ((24 : Int32).toUInt32 &&& Int32.toUInt32 31)).toInt32).toInt8.toInt32))) (13 : Int32).toNatClampNeg (vp_nar .byte (((p0.toUInt32 >>> ((16 : Int32).toUInt32 &&& Int32.toUInt32 31)).toInt32).toInt8.toInt32)))))] := hD
  refine lv_iinc (v := 8) (lv' := [(2, .int 8), (0, .ref h0), (1, .int p0)]) hx hb dX8_putOnTape_40 hl (k := 0) rfl (by decide) (by decide) rfl (fun ls hl => ?_)
  refine lv_goto (tgt := 3) hx hb dX8_putOnTape_43 (by decide) ?_
  refine lv_iload_n hx hb dX8_putOnTape_3 rfl (lv_at hl 0 rfl) ?_
  refine lv_if_lt (tgt := 46) hx hb dX8_putOnTape_4 (by decide) (fun cz => absurd cz (by decide)) (fun _ => ?_)
  refine lv_aload_n hx hb dX8_putOnTape_7 rfl (lv_at hl 1 rfl) ?_
  refine va_get (D := (dC, dI)) (ci := 8) (v := .int 14) (C := RX8) (T := TX8) (N := 12) hx hb hts hinX8 hown hK hP 0 rfl rfl 1 (by decide) (hts (.fieldLink RX8 13 "MayRings" "tapeLength" "I") (List.mem_of_getElem? (i := 1) rfl)) (fun _ h9 => h9) rfl dX8_putOnTape_8 ?_
  refine lv_sipush (v := 1600) hx hb dX8_putOnTape_11 (by decide) ?_
  refine lv_icmp_ge (tgt := 40) hx hb dX8_putOnTape_14 (by decide) (fun cz => absurd cz (by decide)) (fun _ => ?_)
  refine lv_aload_n hx hb dX8_putOnTape_17 rfl (lv_at hl 1 rfl) ?_
  refine va_get (D := (dC, dI)) (ci := 8) (v := .ref h1) (C := RX8) (T := TX8) (N := 12) hx hb hts hinX8 hown hK hP 0 rfl rfl 0 (by decide) (hts (.fieldLink RX8 9 "MayRings" "tape" "[B") (List.mem_of_getElem? (i := 2) rfl)) (fun _ h9 => h9) rfl dX8_putOnTape_18 ?_
  refine lv_aload_n hx hb dX8_putOnTape_21 rfl (lv_at hl 1 rfl) ?_
  refine va_get (D := (dC, dI)) (ci := 8) (v := .int 14) (C := RX8) (T := TX8) (N := 12) hx hb hts hinX8 hown hK hP 0 rfl rfl 1 (by decide) (hts (.fieldLink RX8 13 "MayRings" "tapeLength" "I") (List.mem_of_getElem? (i := 1) rfl)) (fun _ h9 => h9) rfl dX8_putOnTape_22 ?_
  refine lv_iload_n hx hb dX8_putOnTape_25 rfl (lv_at hl 2 rfl) ?_
  refine lv_iload_n hx hb dX8_putOnTape_26 rfl (lv_at hl 0 rfl) ?_
  refine lv_iushr hx hb dX8_putOnTape_27 rfl ?_
  refine lv_i2b (v := (((p0.toUInt32 >>> ((8 : Int32).toUInt32 &&& Int32.toUInt32 31)).toInt32).toInt8.toInt32)) hx hb dX8_putOnTape_28 rfl ?_
  refine va_bast hx hb hK hP hD hS 1 0 rfl rfl (show ¬ (_ ∨ _) by decide) dX8_putOnTape_29 (fun H locs hP hD hS => ?_)
  have hP : va_P (dC, dI) vwCl [(h0, .inr (8, [.ref h1, .int 14, .ref h2, .ref h3, .ref h4, .ref h5, .ref h6, .ref h7, .ref h8, .ref h9, .ref h10, .ref h11])), (h1, .inl (cB, 1600, .inl (upd (upd (upd g0 (12 : Int32).toNatClampNeg (vp_nar .byte (((p0.toUInt32 >>> ((24 : Int32).toUInt32 &&& Int32.toUInt32 31)).toInt32).toInt8.toInt32))) (13 : Int32).toNatClampNeg (vp_nar .byte (((p0.toUInt32 >>> ((16 : Int32).toUInt32 &&& Int32.toUInt32 31)).toInt32).toInt8.toInt32))) (14 : Int32).toNatClampNeg (vp_nar .byte (((p0.toUInt32 >>> ((8 : Int32).toUInt32 &&& Int32.toUInt32 31)).toInt32).toInt8.toInt32)))))] H := hP
  have hD : va_D A [(h0, .inr (8, [.ref h1, .int 14, .ref h2, .ref h3, .ref h4, .ref h5, .ref h6, .ref h7, .ref h8, .ref h9, .ref h10, .ref h11])), (h1, .inl (cB, 1600, .inl (upd (upd (upd g0 (12 : Int32).toNatClampNeg (vp_nar .byte (((p0.toUInt32 >>> ((24 : Int32).toUInt32 &&& Int32.toUInt32 31)).toInt32).toInt8.toInt32))) (13 : Int32).toNatClampNeg (vp_nar .byte (((p0.toUInt32 >>> ((16 : Int32).toUInt32 &&& Int32.toUInt32 31)).toInt32).toInt8.toInt32))) (14 : Int32).toNatClampNeg (vp_nar .byte (((p0.toUInt32 >>> ((8 : Int32).toUInt32 &&& Int32.toUInt32 31)).toInt32).toInt8.toInt32)))))] := hD
  refine lv_aload_n hx hb dX8_putOnTape_30 rfl (lv_at hl 1 rfl) ?_
  refine lv_dup hx hb dX8_putOnTape_31 rfl ?_
  refine va_get (D := (dC, dI)) (ci := 8) (v := .int 14) (C := RX8) (T := TX8) (N := 12) hx hb hts hinX8 hown hK hP 0 rfl rfl 1 (by decide) (hts (.fieldLink RX8 13 "MayRings" "tapeLength" "I") (List.mem_of_getElem? (i := 1) rfl)) (fun _ h9 => h9) rfl dX8_putOnTape_32 ?_
  refine lv_iconst (v := 1) hx hb dX8_putOnTape_35 (by decide) ?_
  refine lv_iadd hx hb dX8_putOnTape_36 ?_
  refine tp_v (.int 15) (congrArg Value.int (by decide)) ?_
  refine va_put (D := (dC, dI)) (ci := 8) (v := .int 15) (ty := .int) (C := RX8) (T := TX8) (N := 12) hx hb hts hinX8 tyX8 tyX8_ok nmX8 hown hK hP hD hS 0 rfl rfl 1 (by decide) (hts (.fieldLink RX8 13 "MayRings" "tapeLength" "I") (List.mem_of_getElem? (i := 1) rfl)) (fun _ h9 => h9) rfl (by decide +kernel) rfl rfl (Nat.le_of_ble_eq_true rfl) dX8_putOnTape_37 (fun H locs hP hD hS => ?_)
  have hP : va_P (dC, dI) vwCl [(h0, .inr (8, [.ref h1, .int 15, .ref h2, .ref h3, .ref h4, .ref h5, .ref h6, .ref h7, .ref h8, .ref h9, .ref h10, .ref h11])), (h1, .inl (cB, 1600, .inl (upd (upd (upd g0 (12 : Int32).toNatClampNeg (vp_nar .byte (((p0.toUInt32 >>> ((24 : Int32).toUInt32 &&& Int32.toUInt32 31)).toInt32).toInt8.toInt32))) (13 : Int32).toNatClampNeg (vp_nar .byte (((p0.toUInt32 >>> ((16 : Int32).toUInt32 &&& Int32.toUInt32 31)).toInt32).toInt8.toInt32))) (14 : Int32).toNatClampNeg (vp_nar .byte (((p0.toUInt32 >>> ((8 : Int32).toUInt32 &&& Int32.toUInt32 31)).toInt32).toInt8.toInt32)))))] H := hP
  have hD : va_D A [(h0, .inr (8, [.ref h1, .int 15, .ref h2, .ref h3, .ref h4, .ref h5, .ref h6, .ref h7, .ref h8, .ref h9, .ref h10, .ref h11])), (h1, .inl (cB, 1600, .inl (upd (upd (upd g0 (12 : Int32).toNatClampNeg (vp_nar .byte (((p0.toUInt32 >>> ((24 : Int32).toUInt32 &&& Int32.toUInt32 31)).toInt32).toInt8.toInt32))) (13 : Int32).toNatClampNeg (vp_nar .byte (((p0.toUInt32 >>> ((16 : Int32).toUInt32 &&& Int32.toUInt32 31)).toInt32).toInt8.toInt32))) (14 : Int32).toNatClampNeg (vp_nar .byte (((p0.toUInt32 >>> ((8 : Int32).toUInt32 &&& Int32.toUInt32 31)).toInt32).toInt8.toInt32)))))] := hD
  refine lv_iinc (v := 0) (lv' := [(2, .int 0), (0, .ref h0), (1, .int p0)]) hx hb dX8_putOnTape_40 hl (k := 0) rfl (by decide) (by decide) rfl (fun ls hl => ?_)
  refine lv_goto (tgt := 3) hx hb dX8_putOnTape_43 (by decide) ?_
  refine lv_iload_n hx hb dX8_putOnTape_3 rfl (lv_at hl 0 rfl) ?_
  refine lv_if_lt (tgt := 46) hx hb dX8_putOnTape_4 (by decide) (fun cz => absurd cz (by decide)) (fun _ => ?_)
  refine lv_aload_n hx hb dX8_putOnTape_7 rfl (lv_at hl 1 rfl) ?_
  refine va_get (D := (dC, dI)) (ci := 8) (v := .int 15) (C := RX8) (T := TX8) (N := 12) hx hb hts hinX8 hown hK hP 0 rfl rfl 1 (by decide) (hts (.fieldLink RX8 13 "MayRings" "tapeLength" "I") (List.mem_of_getElem? (i := 1) rfl)) (fun _ h9 => h9) rfl dX8_putOnTape_8 ?_
  refine lv_sipush (v := 1600) hx hb dX8_putOnTape_11 (by decide) ?_
  refine lv_icmp_ge (tgt := 40) hx hb dX8_putOnTape_14 (by decide) (fun cz => absurd cz (by decide)) (fun _ => ?_)
  refine lv_aload_n hx hb dX8_putOnTape_17 rfl (lv_at hl 1 rfl) ?_
  refine va_get (D := (dC, dI)) (ci := 8) (v := .ref h1) (C := RX8) (T := TX8) (N := 12) hx hb hts hinX8 hown hK hP 0 rfl rfl 0 (by decide) (hts (.fieldLink RX8 9 "MayRings" "tape" "[B") (List.mem_of_getElem? (i := 2) rfl)) (fun _ h9 => h9) rfl dX8_putOnTape_18 ?_
  refine lv_aload_n hx hb dX8_putOnTape_21 rfl (lv_at hl 1 rfl) ?_
  refine va_get (D := (dC, dI)) (ci := 8) (v := .int 15) (C := RX8) (T := TX8) (N := 12) hx hb hts hinX8 hown hK hP 0 rfl rfl 1 (by decide) (hts (.fieldLink RX8 13 "MayRings" "tapeLength" "I") (List.mem_of_getElem? (i := 1) rfl)) (fun _ h9 => h9) rfl dX8_putOnTape_22 ?_
  refine lv_iload_n hx hb dX8_putOnTape_25 rfl (lv_at hl 2 rfl) ?_
  refine lv_iload_n hx hb dX8_putOnTape_26 rfl (lv_at hl 0 rfl) ?_
  refine lv_iushr hx hb dX8_putOnTape_27 rfl ?_
  refine lv_i2b (v := (((p0.toUInt32 >>> ((0 : Int32).toUInt32 &&& Int32.toUInt32 31)).toInt32).toInt8.toInt32)) hx hb dX8_putOnTape_28 rfl ?_
  refine va_bast hx hb hK hP hD hS 1 0 rfl rfl (show ¬ (_ ∨ _) by decide) dX8_putOnTape_29 (fun H locs hP hD hS => ?_)
  have hP : va_P (dC, dI) vwCl [(h0, .inr (8, [.ref h1, .int 15, .ref h2, .ref h3, .ref h4, .ref h5, .ref h6, .ref h7, .ref h8, .ref h9, .ref h10, .ref h11])), (h1, .inl (cB, 1600, .inl (upd (upd (upd (upd g0 (12 : Int32).toNatClampNeg (vp_nar .byte (((p0.toUInt32 >>> ((24 : Int32).toUInt32 &&& Int32.toUInt32 31)).toInt32).toInt8.toInt32))) (13 : Int32).toNatClampNeg (vp_nar .byte (((p0.toUInt32 >>> ((16 : Int32).toUInt32 &&& Int32.toUInt32 31)).toInt32).toInt8.toInt32))) (14 : Int32).toNatClampNeg (vp_nar .byte (((p0.toUInt32 >>> ((8 : Int32).toUInt32 &&& Int32.toUInt32 31)).toInt32).toInt8.toInt32))) (15 : Int32).toNatClampNeg (vp_nar .byte (((p0.toUInt32 >>> ((0 : Int32).toUInt32 &&& Int32.toUInt32 31)).toInt32).toInt8.toInt32)))))] H := hP
  have hD : va_D A [(h0, .inr (8, [.ref h1, .int 15, .ref h2, .ref h3, .ref h4, .ref h5, .ref h6, .ref h7, .ref h8, .ref h9, .ref h10, .ref h11])), (h1, .inl (cB, 1600, .inl (upd (upd (upd (upd g0 (12 : Int32).toNatClampNeg (vp_nar .byte (((p0.toUInt32 >>> ((24 : Int32).toUInt32 &&& Int32.toUInt32 31)).toInt32).toInt8.toInt32))) (13 : Int32).toNatClampNeg (vp_nar .byte (((p0.toUInt32 >>> ((16 : Int32).toUInt32 &&& Int32.toUInt32 31)).toInt32).toInt8.toInt32))) (14 : Int32).toNatClampNeg (vp_nar .byte (((p0.toUInt32 >>> ((8 : Int32).toUInt32 &&& Int32.toUInt32 31)).toInt32).toInt8.toInt32))) (15 : Int32).toNatClampNeg (vp_nar .byte (((p0.toUInt32 >>> ((0 : Int32).toUInt32 &&& Int32.toUInt32 31)).toInt32).toInt8.toInt32)))))] := hD
  refine lv_aload_n hx hb dX8_putOnTape_30 rfl (lv_at hl 1 rfl) ?_
  refine lv_dup hx hb dX8_putOnTape_31 rfl ?_
  refine va_get (D := (dC, dI)) (ci := 8) (v := .int 15) (C := RX8) (T := TX8) (N := 12) hx hb hts hinX8 hown hK hP 0 rfl rfl 1 (by decide) (hts (.fieldLink RX8 13 "MayRings" "tapeLength" "I") (List.mem_of_getElem? (i := 1) rfl)) (fun _ h9 => h9) rfl dX8_putOnTape_32 ?_
  refine lv_iconst (v := 1) hx hb dX8_putOnTape_35 (by decide) ?_
  refine lv_iadd hx hb dX8_putOnTape_36 ?_
  refine tp_v (.int 16) (congrArg Value.int (by decide)) ?_
  refine va_put (D := (dC, dI)) (ci := 8) (v := .int 16) (ty := .int) (C := RX8) (T := TX8) (N := 12) hx hb hts hinX8 tyX8 tyX8_ok nmX8 hown hK hP hD hS 0 rfl rfl 1 (by decide) (hts (.fieldLink RX8 13 "MayRings" "tapeLength" "I") (List.mem_of_getElem? (i := 1) rfl)) (fun _ h9 => h9) rfl (by decide +kernel) rfl rfl (Nat.le_of_ble_eq_true rfl) dX8_putOnTape_37 (fun H locs hP hD hS => ?_)
  have hP : va_P (dC, dI) vwCl [(h0, .inr (8, [.ref h1, .int 16, .ref h2, .ref h3, .ref h4, .ref h5, .ref h6, .ref h7, .ref h8, .ref h9, .ref h10, .ref h11])), (h1, .inl (cB, 1600, .inl (upd (upd (upd (upd g0 (12 : Int32).toNatClampNeg (vp_nar .byte (((p0.toUInt32 >>> ((24 : Int32).toUInt32 &&& Int32.toUInt32 31)).toInt32).toInt8.toInt32))) (13 : Int32).toNatClampNeg (vp_nar .byte (((p0.toUInt32 >>> ((16 : Int32).toUInt32 &&& Int32.toUInt32 31)).toInt32).toInt8.toInt32))) (14 : Int32).toNatClampNeg (vp_nar .byte (((p0.toUInt32 >>> ((8 : Int32).toUInt32 &&& Int32.toUInt32 31)).toInt32).toInt8.toInt32))) (15 : Int32).toNatClampNeg (vp_nar .byte (((p0.toUInt32 >>> ((0 : Int32).toUInt32 &&& Int32.toUInt32 31)).toInt32).toInt8.toInt32)))))] H := hP
  have hD : va_D A [(h0, .inr (8, [.ref h1, .int 16, .ref h2, .ref h3, .ref h4, .ref h5, .ref h6, .ref h7, .ref h8, .ref h9, .ref h10, .ref h11])), (h1, .inl (cB, 1600, .inl (upd (upd (upd (upd g0 (12 : Int32).toNatClampNeg (vp_nar .byte (((p0.toUInt32 >>> ((24 : Int32).toUInt32 &&& Int32.toUInt32 31)).toInt32).toInt8.toInt32))) (13 : Int32).toNatClampNeg (vp_nar .byte (((p0.toUInt32 >>> ((16 : Int32).toUInt32 &&& Int32.toUInt32 31)).toInt32).toInt8.toInt32))) (14 : Int32).toNatClampNeg (vp_nar .byte (((p0.toUInt32 >>> ((8 : Int32).toUInt32 &&& Int32.toUInt32 31)).toInt32).toInt8.toInt32))) (15 : Int32).toNatClampNeg (vp_nar .byte (((p0.toUInt32 >>> ((0 : Int32).toUInt32 &&& Int32.toUInt32 31)).toInt32).toInt8.toInt32)))))] := hD
  refine lv_iinc (v := (-8)) (lv' := [(2, .int (-8)), (0, .ref h0), (1, .int p0)]) hx hb dX8_putOnTape_40 hl (k := 0) rfl (by decide) (by decide) rfl (fun ls hl => ?_)
  refine lv_goto (tgt := 3) hx hb dX8_putOnTape_43 (by decide) ?_
  refine lv_iload_n hx hb dX8_putOnTape_3 rfl (lv_at hl 0 rfl) ?_
  refine lv_if_lt (tgt := 46) hx hb dX8_putOnTape_4 (by decide) (fun _ => ?_) (fun cz => absurd (by decide) cz)
  have hP9 := hP.sub (ws' := [(h0, .inr (8, [.ref h1, .int 16, .ref h2, .ref h3, .ref h4, .ref h5, .ref h6, .ref h7, .ref h8, .ref h9, .ref h10, .ref h11])), (h1, .inl (cB, 1600, .inl (upd (upd (upd (upd g0 (12 : Int32).toNatClampNeg (vp_nar .byte (((p0.toUInt32 >>> ((24 : Int32).toUInt32 &&& Int32.toUInt32 31)).toInt32).toInt8.toInt32))) (13 : Int32).toNatClampNeg (vp_nar .byte (((p0.toUInt32 >>> ((16 : Int32).toUInt32 &&& Int32.toUInt32 31)).toInt32).toInt8.toInt32))) (14 : Int32).toNatClampNeg (vp_nar .byte (((p0.toUInt32 >>> ((8 : Int32).toUInt32 &&& Int32.toUInt32 31)).toInt32).toInt8.toInt32))) (15 : Int32).toNatClampNeg (vp_nar .byte (((p0.toUInt32 >>> ((0 : Int32).toUInt32 &&& Int32.toUInt32 31)).toInt32).toInt8.toInt32)))))]) [0, 1] rfl
  have hD9 := hD.sub (ws' := [(h0, .inr (8, [.ref h1, .int 16, .ref h2, .ref h3, .ref h4, .ref h5, .ref h6, .ref h7, .ref h8, .ref h9, .ref h10, .ref h11])), (h1, .inl (cB, 1600, .inl (upd (upd (upd (upd g0 (12 : Int32).toNatClampNeg (vp_nar .byte (((p0.toUInt32 >>> ((24 : Int32).toUInt32 &&& Int32.toUInt32 31)).toInt32).toInt8.toInt32))) (13 : Int32).toNatClampNeg (vp_nar .byte (((p0.toUInt32 >>> ((16 : Int32).toUInt32 &&& Int32.toUInt32 31)).toInt32).toInt8.toInt32))) (14 : Int32).toNatClampNeg (vp_nar .byte (((p0.toUInt32 >>> ((8 : Int32).toUInt32 &&& Int32.toUInt32 31)).toInt32).toInt8.toInt32))) (15 : Int32).toNatClampNeg (vp_nar .byte (((p0.toUInt32 >>> ((0 : Int32).toUInt32 &&& Int32.toUInt32 31)).toInt32).toInt8.toInt32)))))]) [0, 1] (by decide) rfl
  exact W.vret hx hb hr (fun t ht hW => ⟨⟨(), rfl, trivial, ⟨(upd (upd (upd (upd g0 (12 : Int32).toNatClampNeg (vp_nar .byte (((p0.toUInt32 >>> ((24 : Int32).toUInt32 &&& Int32.toUInt32 31)).toInt32).toInt8.toInt32))) (13 : Int32).toNatClampNeg (vp_nar .byte (((p0.toUInt32 >>> ((16 : Int32).toUInt32 &&& Int32.toUInt32 31)).toInt32).toInt8.toInt32))) (14 : Int32).toNatClampNeg (vp_nar .byte (((p0.toUInt32 >>> ((8 : Int32).toUInt32 &&& Int32.toUInt32 31)).toInt32).toInt8.toInt32))) (15 : Int32).toNatClampNeg (vp_nar .byte (((p0.toUInt32 >>> ((0 : Int32).toUInt32 &&& Int32.toUInt32 31)).toInt32).toInt8.toInt32))), by rw [ht]; exact hP9, hD9⟩⟩, hS.F ht⟩) hS.2.2 dX8_putOnTape_46
def v_X8_putOnTape_5 : List Cond := Cond.code yX8_putOnTape cX8_putOnTape 3 none :: ([Cond.fieldLink RX8 13 "MayRings" "tapeLength" "I", Cond.fieldLink RX8 9 "MayRings" "tape" "[B"] ++ (wsX80 ++ ([])))
theorem k_X8_putOnTape_5 : GoodIn lw_tbl v_X8_putOnTape_5 := gd_c (List.mem_of_getElem? (i := 575) (by decide +kernel)) rfl (goodIn_app (gd_c (List.mem_of_getElem? (i := 532) (by decide +kernel)) rfl (gd_c (List.mem_of_getElem? (i := 531) (by decide +kernel)) rfl (gd_nil))) (goodIn_app kfX8 (gd_nil)))
set_option maxHeartbeats 600000 in
set_option maxRecDepth 100000 in
theorem c_X8_putOnTape_5 (l : Launch) (dC : Nat → ClassId) (dI : Nat → Nat → Nat) (cB cI cJ cZ cP : ClassId) (h0 : Nat) (p0 : Int32) (h1 : Nat) (h2 : Nat) (h3 : Nat) (h4 : Nat) (h5 : Nat) (h6 : Nat) (h7 : Nat) (h8 : Nat) (h9 : Nat) (h10 : Nat) (h11 : Nat) (g0 : Nat → Int32) (sz : Nat) : Met l yX8_putOnTape v_X8_putOnTape_5 ({ frames := 0, cells := 0, slots := 0, locals := 0 }) (va_Pc [.ref h0, .int p0] (fun U => U.heap.size = sz ∧ va_P (dC, dI) vwCl [(h0, .inr (8, [.ref h1, .int 16, .ref h2, .ref h3, .ref h4, .ref h5, .ref h6, .ref h7, .ref h8, .ref h9, .ref h10, .ref h11])), (h1, .inl (cB, 1600, .inl g0))] U.heap ∧ va_K (dC, dI) vwCl (ty5 cB cI cJ cZ cP) U ∧ va_D (fun _ => True) [(h0, .inr (8, [.ref h1, .int 16, .ref h2, .ref h3, .ref h4, .ref h5, .ref h6, .ref h7, .ref h8, .ref h9, .ref h10, .ref h11])), (h1, .inl (cB, 1600, .inl g0))])) (va_Qv (fun _ : Unit => True) (fun _ t => ∃ (z1000 : Nat → Int32), va_P (dC, dI) vwCl [(h0, .inr (8, [.ref h1, .int 20, .ref h2, .ref h3, .ref h4, .ref h5, .ref h6, .ref h7, .ref h8, .ref h9, .ref h10, .ref h11])), (h1, .inl (cB, 1600, .inl z1000))] t.heap ∧ va_D (va_A [(h0, .inr (8, [.ref h1, .int 16, .ref h2, .ref h3, .ref h4, .ref h5, .ref h6, .ref h7, .ref h8, .ref h9, .ref h10, .ref h11])), (h1, .inl (cB, 1600, .inl g0))] sz) [(h0, .inr (8, [.ref h1, .int 20, .ref h2, .ref h3, .ref h4, .ref h5, .ref h6, .ref h7, .ref h8, .ref h9, .ref h10, .ref h11])), (h1, .inl (cB, 1600, .inl z1000))]) (va_A [(h0, .inr (8, [.ref h1, .int 16, .ref h2, .ref h3, .ref h4, .ref h5, .ref h6, .ref h7, .ref h8, .ref h9, .ref h10, .ref h11])), (h1, .inl (cB, 1600, .inl g0))] sz)) 0 0 (va_A [(h0, .inr (8, [.ref h1, .int 16, .ref h2, .ref h3, .ref h4, .ref h5, .ref h6, .ref h7, .ref h8, .ref h9, .ref h10, .ref h11])), (h1, .inl (cB, 1600, .inl g0))] sz) := by
  refine Met.ofW (cc := cX8_putOnTape) (maxL := 3) (ret := none) (by decide) rfl ?_
  intro p e s m args below meth c s₁ B hml hv
  obtain ⟨rfl, hsz, hP, hK, hD0⟩ := hv
  have hx := B.exec
  have hb := B.bytes
  have hr := B.returns
  have hts := atoms_spec (ws := v_X8_putOnTape_5) B.pre
  have hown : s.vm.findClass RX8 = some m.cls := findClass_of_methodNamed B.named
  have hlocks := B.notSynchronized
  have hinX8 : ∀ w ∈ wsX80, w ∈ v_X8_putOnTape_5 := fun _ h => List.mem_cons_of_mem _ (List.mem_append_right _ (List.mem_append_left _ h))
  subst hsz
  have hD := hD0.self (sz := s.heap.size)
  generalize hAe : va_A [(h0, .inr (8, [.ref h1, .int 16, .ref h2, .ref h3, .ref h4, .ref h5, .ref h6, .ref h7, .ref h8, .ref h9, .ref h10, .ref h11])), (h1, .inl (cB, 1600, .inl g0))] s.heap.size = A at hD ⊢
  have hA : ∀ q : Nat, s.heap.size ≤ q → A q := fun q h => by rw [← hAe]; exact Or.inr h
  have hP : va_P (dC, dI) vwCl [(h0, .inr (8, [.ref h1, .int 16, .ref h2, .ref h3, .ref h4, .ref h5, .ref h6, .ref h7, .ref h8, .ref h9, .ref h10, .ref h11])), (h1, .inl (cB, 1600, .inl g0))] s.heap := hP
  have hl := lv_entry ([.ref h0, .int p0]) (n := 3) (Nat.le_of_ble_eq_true rfl)
  rw [lg_entry_eq]
  generalize (lg_sl ([.ref h0, .int p0]) ++ List.replicate (3 - (lg_sl ([.ref h0, .int p0])).length) Slot.unset).toArray = ls at hl ⊢
  have hl : lv_has ls 3 [(0, .ref h0), (1, .int p0)] := hl
  refine W_gen (A := A) hP (fun H locs hP hS => ?_)
  refine lv_bipush (v := 24) hx hb dX8_putOnTape_0 (by decide) ?_
  refine lv_istore_n (lv' := [(2, .int 24), (0, .ref h0), (1, .int p0)]) hx hb dX8_putOnTape_2 rfl hl (by decide) rfl (fun ls hl => ?_)
  refine lv_iload_n hx hb dX8_putOnTape_3 rfl (lv_at hl 0 rfl) ?_
  refine lv_if_lt (tgt := 46) hx hb dX8_putOnTape_4 (by decide) (fun cz => absurd cz (by decide)) (fun _ => ?_)
  refine lv_aload_n hx hb dX8_putOnTape_7 rfl (lv_at hl 1 rfl) ?_
  refine va_get (D := (dC, dI)) (ci := 8) (v := .int 16) (C := RX8) (T := TX8) (N := 12) hx hb hts hinX8 hown hK hP 0 rfl rfl 1 (by decide) (hts (.fieldLink RX8 13 "MayRings" "tapeLength" "I") (List.mem_of_getElem? (i := 1) rfl)) (fun _ h9 => h9) rfl dX8_putOnTape_8 ?_
  refine lv_sipush (v := 1600) hx hb dX8_putOnTape_11 (by decide) ?_
  refine lv_icmp_ge (tgt := 40) hx hb dX8_putOnTape_14 (by decide) (fun cz => absurd cz (by decide)) (fun _ => ?_)
  refine lv_aload_n hx hb dX8_putOnTape_17 rfl (lv_at hl 1 rfl) ?_
  refine va_get (D := (dC, dI)) (ci := 8) (v := .ref h1) (C := RX8) (T := TX8) (N := 12) hx hb hts hinX8 hown hK hP 0 rfl rfl 0 (by decide) (hts (.fieldLink RX8 9 "MayRings" "tape" "[B") (List.mem_of_getElem? (i := 2) rfl)) (fun _ h9 => h9) rfl dX8_putOnTape_18 ?_
  refine lv_aload_n hx hb dX8_putOnTape_21 rfl (lv_at hl 1 rfl) ?_
  refine va_get (D := (dC, dI)) (ci := 8) (v := .int 16) (C := RX8) (T := TX8) (N := 12) hx hb hts hinX8 hown hK hP 0 rfl rfl 1 (by decide) (hts (.fieldLink RX8 13 "MayRings" "tapeLength" "I") (List.mem_of_getElem? (i := 1) rfl)) (fun _ h9 => h9) rfl dX8_putOnTape_22 ?_
  refine lv_iload_n hx hb dX8_putOnTape_25 rfl (lv_at hl 2 rfl) ?_
  refine lv_iload_n hx hb dX8_putOnTape_26 rfl (lv_at hl 0 rfl) ?_
  refine lv_iushr hx hb dX8_putOnTape_27 rfl ?_
  refine lv_i2b (v := (((p0.toUInt32 >>> ((24 : Int32).toUInt32 &&& Int32.toUInt32 31)).toInt32).toInt8.toInt32)) hx hb dX8_putOnTape_28 rfl ?_
  refine va_bast hx hb hK hP hD hS 1 0 rfl rfl (show ¬ (_ ∨ _) by decide) dX8_putOnTape_29 (fun H locs hP hD hS => ?_)
  have hP : va_P (dC, dI) vwCl [(h0, .inr (8, [.ref h1, .int 16, .ref h2, .ref h3, .ref h4, .ref h5, .ref h6, .ref h7, .ref h8, .ref h9, .ref h10, .ref h11])), (h1, .inl (cB, 1600, .inl (upd g0 (16 : Int32).toNatClampNeg (vp_nar .byte (((p0.toUInt32 >>> ((24 : Int32).toUInt32 &&& Int32.toUInt32 31)).toInt32).toInt8.toInt32)))))] H := hP
  have hD : va_D A [(h0, .inr (8, [.ref h1, .int 16, .ref h2, .ref h3, .ref h4, .ref h5, .ref h6, .ref h7, .ref h8, .ref h9, .ref h10, .ref h11])), (h1, .inl (cB, 1600, .inl (upd g0 (16 : Int32).toNatClampNeg (vp_nar .byte (((p0.toUInt32 >>> ((24 : Int32).toUInt32 &&& Int32.toUInt32 31)).toInt32).toInt8.toInt32)))))] := hD
  refine lv_aload_n hx hb dX8_putOnTape_30 rfl (lv_at hl 1 rfl) ?_
  refine lv_dup hx hb dX8_putOnTape_31 rfl ?_
  refine va_get (D := (dC, dI)) (ci := 8) (v := .int 16) (C := RX8) (T := TX8) (N := 12) hx hb hts hinX8 hown hK hP 0 rfl rfl 1 (by decide) (hts (.fieldLink RX8 13 "MayRings" "tapeLength" "I") (List.mem_of_getElem? (i := 1) rfl)) (fun _ h9 => h9) rfl dX8_putOnTape_32 ?_
  refine lv_iconst (v := 1) hx hb dX8_putOnTape_35 (by decide) ?_
  refine lv_iadd hx hb dX8_putOnTape_36 ?_
  refine tp_v (.int 17) (congrArg Value.int (by decide)) ?_
  refine va_put (D := (dC, dI)) (ci := 8) (v := .int 17) (ty := .int) (C := RX8) (T := TX8) (N := 12) hx hb hts hinX8 tyX8 tyX8_ok nmX8 hown hK hP hD hS 0 rfl rfl 1 (by decide) (hts (.fieldLink RX8 13 "MayRings" "tapeLength" "I") (List.mem_of_getElem? (i := 1) rfl)) (fun _ h9 => h9) rfl (by decide +kernel) rfl rfl (Nat.le_of_ble_eq_true rfl) dX8_putOnTape_37 (fun H locs hP hD hS => ?_)
  have hP : va_P (dC, dI) vwCl [(h0, .inr (8, [.ref h1, .int 17, .ref h2, .ref h3, .ref h4, .ref h5, .ref h6, .ref h7, .ref h8, .ref h9, .ref h10, .ref h11])), (h1, .inl (cB, 1600, .inl (upd g0 (16 : Int32).toNatClampNeg (vp_nar .byte (((p0.toUInt32 >>> ((24 : Int32).toUInt32 &&& Int32.toUInt32 31)).toInt32).toInt8.toInt32)))))] H := hP
  have hD : va_D A [(h0, .inr (8, [.ref h1, .int 17, .ref h2, .ref h3, .ref h4, .ref h5, .ref h6, .ref h7, .ref h8, .ref h9, .ref h10, .ref h11])), (h1, .inl (cB, 1600, .inl (upd g0 (16 : Int32).toNatClampNeg (vp_nar .byte (((p0.toUInt32 >>> ((24 : Int32).toUInt32 &&& Int32.toUInt32 31)).toInt32).toInt8.toInt32)))))] := hD
  refine lv_iinc (v := 16) (lv' := [(2, .int 16), (0, .ref h0), (1, .int p0)]) hx hb dX8_putOnTape_40 hl (k := 0) rfl (by decide) (by decide) rfl (fun ls hl => ?_)
  refine lv_goto (tgt := 3) hx hb dX8_putOnTape_43 (by decide) ?_
  refine lv_iload_n hx hb dX8_putOnTape_3 rfl (lv_at hl 0 rfl) ?_
  refine lv_if_lt (tgt := 46) hx hb dX8_putOnTape_4 (by decide) (fun cz => absurd cz (by decide)) (fun _ => ?_)
  refine lv_aload_n hx hb dX8_putOnTape_7 rfl (lv_at hl 1 rfl) ?_
  refine va_get (D := (dC, dI)) (ci := 8) (v := .int 17) (C := RX8) (T := TX8) (N := 12) hx hb hts hinX8 hown hK hP 0 rfl rfl 1 (by decide) (hts (.fieldLink RX8 13 "MayRings" "tapeLength" "I") (List.mem_of_getElem? (i := 1) rfl)) (fun _ h9 => h9) rfl dX8_putOnTape_8 ?_
  refine lv_sipush (v := 1600) hx hb dX8_putOnTape_11 (by decide) ?_
  refine lv_icmp_ge (tgt := 40) hx hb dX8_putOnTape_14 (by decide) (fun cz => absurd cz (by decide)) (fun _ => ?_)
  refine lv_aload_n hx hb dX8_putOnTape_17 rfl (lv_at hl 1 rfl) ?_
  refine va_get (D := (dC, dI)) (ci := 8) (v := .ref h1) (C := RX8) (T := TX8) (N := 12) hx hb hts hinX8 hown hK hP 0 rfl rfl 0 (by decide) (hts (.fieldLink RX8 9 "MayRings" "tape" "[B") (List.mem_of_getElem? (i := 2) rfl)) (fun _ h9 => h9) rfl dX8_putOnTape_18 ?_
  refine lv_aload_n hx hb dX8_putOnTape_21 rfl (lv_at hl 1 rfl) ?_
  refine va_get (D := (dC, dI)) (ci := 8) (v := .int 17) (C := RX8) (T := TX8) (N := 12) hx hb hts hinX8 hown hK hP 0 rfl rfl 1 (by decide) (hts (.fieldLink RX8 13 "MayRings" "tapeLength" "I") (List.mem_of_getElem? (i := 1) rfl)) (fun _ h9 => h9) rfl dX8_putOnTape_22 ?_
  refine lv_iload_n hx hb dX8_putOnTape_25 rfl (lv_at hl 2 rfl) ?_
  refine lv_iload_n hx hb dX8_putOnTape_26 rfl (lv_at hl 0 rfl) ?_
  refine lv_iushr hx hb dX8_putOnTape_27 rfl ?_
  refine lv_i2b (v := (((p0.toUInt32 >>> ((16 : Int32).toUInt32 &&& Int32.toUInt32 31)).toInt32).toInt8.toInt32)) hx hb dX8_putOnTape_28 rfl ?_
  refine va_bast hx hb hK hP hD hS 1 0 rfl rfl (show ¬ (_ ∨ _) by decide) dX8_putOnTape_29 (fun H locs hP hD hS => ?_)
  have hP : va_P (dC, dI) vwCl [(h0, .inr (8, [.ref h1, .int 17, .ref h2, .ref h3, .ref h4, .ref h5, .ref h6, .ref h7, .ref h8, .ref h9, .ref h10, .ref h11])), (h1, .inl (cB, 1600, .inl (upd (upd g0 (16 : Int32).toNatClampNeg (vp_nar .byte (((p0.toUInt32 >>> ((24 : Int32).toUInt32 &&& Int32.toUInt32 31)).toInt32).toInt8.toInt32))) (17 : Int32).toNatClampNeg (vp_nar .byte (((p0.toUInt32 >>> ((16 : Int32).toUInt32 &&& Int32.toUInt32 31)).toInt32).toInt8.toInt32)))))] H := hP
  have hD : va_D A [(h0, .inr (8, [.ref h1, .int 17, .ref h2, .ref h3, .ref h4, .ref h5, .ref h6, .ref h7, .ref h8, .ref h9, .ref h10, .ref h11])), (h1, .inl (cB, 1600, .inl (upd (upd g0 (16 : Int32).toNatClampNeg (vp_nar .byte (((p0.toUInt32 >>> ((24 : Int32).toUInt32 &&& Int32.toUInt32 31)).toInt32).toInt8.toInt32))) (17 : Int32).toNatClampNeg (vp_nar .byte (((p0.toUInt32 >>> ((16 : Int32).toUInt32 &&& Int32.toUInt32 31)).toInt32).toInt8.toInt32)))))] := hD
  refine lv_aload_n hx hb dX8_putOnTape_30 rfl (lv_at hl 1 rfl) ?_
  refine lv_dup hx hb dX8_putOnTape_31 rfl ?_
  refine va_get (D := (dC, dI)) (ci := 8) (v := .int 17) (C := RX8) (T := TX8) (N := 12) hx hb hts hinX8 hown hK hP 0 rfl rfl 1 (by decide) (hts (.fieldLink RX8 13 "MayRings" "tapeLength" "I") (List.mem_of_getElem? (i := 1) rfl)) (fun _ h9 => h9) rfl dX8_putOnTape_32 ?_
  refine lv_iconst (v := 1) hx hb dX8_putOnTape_35 (by decide) ?_
  refine lv_iadd hx hb dX8_putOnTape_36 ?_
  refine tp_v (.int 18) (congrArg Value.int (by decide)) ?_
  refine va_put (D := (dC, dI)) (ci := 8) (v := .int 18) (ty := .int) (C := RX8) (T := TX8) (N := 12) hx hb hts hinX8 tyX8 tyX8_ok nmX8 hown hK hP hD hS 0 rfl rfl 1 (by decide) (hts (.fieldLink RX8 13 "MayRings" "tapeLength" "I") (List.mem_of_getElem? (i := 1) rfl)) (fun _ h9 => h9) rfl (by decide +kernel) rfl rfl (Nat.le_of_ble_eq_true rfl) dX8_putOnTape_37 (fun H locs hP hD hS => ?_)
  have hP : va_P (dC, dI) vwCl [(h0, .inr (8, [.ref h1, .int 18, .ref h2, .ref h3, .ref h4, .ref h5, .ref h6, .ref h7, .ref h8, .ref h9, .ref h10, .ref h11])), (h1, .inl (cB, 1600, .inl (upd (upd g0 (16 : Int32).toNatClampNeg (vp_nar .byte (((p0.toUInt32 >>> ((24 : Int32).toUInt32 &&& Int32.toUInt32 31)).toInt32).toInt8.toInt32))) (17 : Int32).toNatClampNeg (vp_nar .byte (((p0.toUInt32 >>> ((16 : Int32).toUInt32 &&& Int32.toUInt32 31)).toInt32).toInt8.toInt32)))))] H := hP
  have hD : va_D A [(h0, .inr (8, [.ref h1, .int 18, .ref h2, .ref h3, .ref h4, .ref h5, .ref h6, .ref h7, .ref h8, .ref h9, .ref h10, .ref h11])), (h1, .inl (cB, 1600, .inl (upd (upd g0 (16 : Int32).toNatClampNeg (vp_nar .byte (((p0.toUInt32 >>> ((24 : Int32).toUInt32 &&& Int32.toUInt32 31)).toInt32).toInt8.toInt32))) (17 : Int32).toNatClampNeg (vp_nar .byte (((p0.toUInt32 >>> ((16 : Int32).toUInt32 &&& Int32.toUInt32 31)).toInt32).toInt8.toInt32)))))] := hD
  refine lv_iinc (v := 8) (lv' := [(2, .int 8), (0, .ref h0), (1, .int p0)]) hx hb dX8_putOnTape_40 hl (k := 0) rfl (by decide) (by decide) rfl (fun ls hl => ?_)
  refine lv_goto (tgt := 3) hx hb dX8_putOnTape_43 (by decide) ?_
  refine lv_iload_n hx hb dX8_putOnTape_3 rfl (lv_at hl 0 rfl) ?_
  refine lv_if_lt (tgt := 46) hx hb dX8_putOnTape_4 (by decide) (fun cz => absurd cz (by decide)) (fun _ => ?_)
  refine lv_aload_n hx hb dX8_putOnTape_7 rfl (lv_at hl 1 rfl) ?_
  refine va_get (D := (dC, dI)) (ci := 8) (v := .int 18) (C := RX8) (T := TX8) (N := 12) hx hb hts hinX8 hown hK hP 0 rfl rfl 1 (by decide) (hts (.fieldLink RX8 13 "MayRings" "tapeLength" "I") (List.mem_of_getElem? (i := 1) rfl)) (fun _ h9 => h9) rfl dX8_putOnTape_8 ?_
  refine lv_sipush (v := 1600) hx hb dX8_putOnTape_11 (by decide) ?_
  refine lv_icmp_ge (tgt := 40) hx hb dX8_putOnTape_14 (by decide) (fun cz => absurd cz (by decide)) (fun _ => ?_)
  refine lv_aload_n hx hb dX8_putOnTape_17 rfl (lv_at hl 1 rfl) ?_
  refine va_get (D := (dC, dI)) (ci := 8) (v := .ref h1) (C := RX8) (T := TX8) (N := 12) hx hb hts hinX8 hown hK hP 0 rfl rfl 0 (by decide) (hts (.fieldLink RX8 9 "MayRings" "tape" "[B") (List.mem_of_getElem? (i := 2) rfl)) (fun _ h9 => h9) rfl dX8_putOnTape_18 ?_
  refine lv_aload_n hx hb dX8_putOnTape_21 rfl (lv_at hl 1 rfl) ?_
  refine va_get (D := (dC, dI)) (ci := 8) (v := .int 18) (C := RX8) (T := TX8) (N := 12) hx hb hts hinX8 hown hK hP 0 rfl rfl 1 (by decide) (hts (.fieldLink RX8 13 "MayRings" "tapeLength" "I") (List.mem_of_getElem? (i := 1) rfl)) (fun _ h9 => h9) rfl dX8_putOnTape_22 ?_
  refine lv_iload_n hx hb dX8_putOnTape_25 rfl (lv_at hl 2 rfl) ?_
  refine lv_iload_n hx hb dX8_putOnTape_26 rfl (lv_at hl 0 rfl) ?_
  refine lv_iushr hx hb dX8_putOnTape_27 rfl ?_
  refine lv_i2b (v := (((p0.toUInt32 >>> ((8 : Int32).toUInt32 &&& Int32.toUInt32 31)).toInt32).toInt8.toInt32)) hx hb dX8_putOnTape_28 rfl ?_
  refine va_bast hx hb hK hP hD hS 1 0 rfl rfl (show ¬ (_ ∨ _) by decide) dX8_putOnTape_29 (fun H locs hP hD hS => ?_)
  have hP : va_P (dC, dI) vwCl [(h0, .inr (8, [.ref h1, .int 18, .ref h2, .ref h3, .ref h4, .ref h5, .ref h6, .ref h7, .ref h8, .ref h9, .ref h10, .ref h11])), (h1, .inl (cB, 1600, .inl (upd (upd (upd g0 (16 : Int32).toNatClampNeg (vp_nar .byte (((p0.toUInt32 >>> ((24 : Int32).toUInt32 &&& Int32.toUInt32 31)).toInt32).toInt8.toInt32))) (17 : Int32).toNatClampNeg (vp_nar .byte (((p0.toUInt32 >>> ((16 : Int32).toUInt32 &&& Int32.toUInt32 31)).toInt32).toInt8.toInt32))) (18 : Int32).toNatClampNeg (vp_nar .byte (((p0.toUInt32 >>> ((8 : Int32).toUInt32 &&& Int32.toUInt32 31)).toInt32).toInt8.toInt32)))))] H := hP
  have hD : va_D A [(h0, .inr (8, [.ref h1, .int 18, .ref h2, .ref h3, .ref h4, .ref h5, .ref h6, .ref h7, .ref h8, .ref h9, .ref h10, .ref h11])), (h1, .inl (cB, 1600, .inl (upd (upd (upd g0 (16 : Int32).toNatClampNeg (vp_nar .byte (((p0.toUInt32 >>> ((24 : Int32).toUInt32 &&& Int32.toUInt32 31)).toInt32).toInt8.toInt32))) (17 : Int32).toNatClampNeg (vp_nar .byte (((p0.toUInt32 >>> ((16 : Int32).toUInt32 &&& Int32.toUInt32 31)).toInt32).toInt8.toInt32))) (18 : Int32).toNatClampNeg (vp_nar .byte (((p0.toUInt32 >>> ((8 : Int32).toUInt32 &&& Int32.toUInt32 31)).toInt32).toInt8.toInt32)))))] := hD
  refine lv_aload_n hx hb dX8_putOnTape_30 rfl (lv_at hl 1 rfl) ?_
  refine lv_dup hx hb dX8_putOnTape_31 rfl ?_
  refine va_get (D := (dC, dI)) (ci := 8) (v := .int 18) (C := RX8) (T := TX8) (N := 12) hx hb hts hinX8 hown hK hP 0 rfl rfl 1 (by decide) (hts (.fieldLink RX8 13 "MayRings" "tapeLength" "I") (List.mem_of_getElem? (i := 1) rfl)) (fun _ h9 => h9) rfl dX8_putOnTape_32 ?_
  refine lv_iconst (v := 1) hx hb dX8_putOnTape_35 (by decide) ?_
  refine lv_iadd hx hb dX8_putOnTape_36 ?_
  refine tp_v (.int 19) (congrArg Value.int (by decide)) ?_
  refine va_put (D := (dC, dI)) (ci := 8) (v := .int 19) (ty := .int) (C := RX8) (T := TX8) (N := 12) hx hb hts hinX8 tyX8 tyX8_ok nmX8 hown hK hP hD hS 0 rfl rfl 1 (by decide) (hts (.fieldLink RX8 13 "MayRings" "tapeLength" "I") (List.mem_of_getElem? (i := 1) rfl)) (fun _ h9 => h9) rfl (by decide +kernel) rfl rfl (Nat.le_of_ble_eq_true rfl) dX8_putOnTape_37 (fun H locs hP hD hS => ?_)
  have hP : va_P (dC, dI) vwCl [(h0, .inr (8, [.ref h1, .int 19, .ref h2, .ref h3, .ref h4, .ref h5, .ref h6, .ref h7, .ref h8, .ref h9, .ref h10, .ref h11])), (h1, .inl (cB, 1600, .inl (upd (upd (upd g0 (16 : Int32).toNatClampNeg (vp_nar .byte (((p0.toUInt32 >>> ((24 : Int32).toUInt32 &&& Int32.toUInt32 31)).toInt32).toInt8.toInt32))) (17 : Int32).toNatClampNeg (vp_nar .byte (((p0.toUInt32 >>> ((16 : Int32).toUInt32 &&& Int32.toUInt32 31)).toInt32).toInt8.toInt32))) (18 : Int32).toNatClampNeg (vp_nar .byte (((p0.toUInt32 >>> ((8 : Int32).toUInt32 &&& Int32.toUInt32 31)).toInt32).toInt8.toInt32)))))] H := hP
  have hD : va_D A [(h0, .inr (8, [.ref h1, .int 19, .ref h2, .ref h3, .ref h4, .ref h5, .ref h6, .ref h7, .ref h8, .ref h9, .ref h10, .ref h11])), (h1, .inl (cB, 1600, .inl (upd (upd (upd g0 (16 : Int32).toNatClampNeg (vp_nar .byte (((p0.toUInt32 >>> ((24 : Int32).toUInt32 &&& Int32.toUInt32 31)).toInt32).toInt8.toInt32))) (17 : Int32).toNatClampNeg (vp_nar .byte (((p0.toUInt32 >>> ((16 : Int32).toUInt32 &&& Int32.toUInt32 31)).toInt32).toInt8.toInt32))) (18 : Int32).toNatClampNeg (vp_nar .byte (((p0.toUInt32 >>> ((8 : Int32).toUInt32 &&& Int32.toUInt32 31)).toInt32).toInt8.toInt32)))))] := hD
  refine lv_iinc (v := 0) (lv' := [(2, .int 0), (0, .ref h0), (1, .int p0)]) hx hb dX8_putOnTape_40 hl (k := 0) rfl (by decide) (by decide) rfl (fun ls hl => ?_)
  refine lv_goto (tgt := 3) hx hb dX8_putOnTape_43 (by decide) ?_
  refine lv_iload_n hx hb dX8_putOnTape_3 rfl (lv_at hl 0 rfl) ?_
  refine lv_if_lt (tgt := 46) hx hb dX8_putOnTape_4 (by decide) (fun cz => absurd cz (by decide)) (fun _ => ?_)
  refine lv_aload_n hx hb dX8_putOnTape_7 rfl (lv_at hl 1 rfl) ?_
  refine va_get (D := (dC, dI)) (ci := 8) (v := .int 19) (C := RX8) (T := TX8) (N := 12) hx hb hts hinX8 hown hK hP 0 rfl rfl 1 (by decide) (hts (.fieldLink RX8 13 "MayRings" "tapeLength" "I") (List.mem_of_getElem? (i := 1) rfl)) (fun _ h9 => h9) rfl dX8_putOnTape_8 ?_
  refine lv_sipush (v := 1600) hx hb dX8_putOnTape_11 (by decide) ?_
  refine lv_icmp_ge (tgt := 40) hx hb dX8_putOnTape_14 (by decide) (fun cz => absurd cz (by decide)) (fun _ => ?_)
  refine lv_aload_n hx hb dX8_putOnTape_17 rfl (lv_at hl 1 rfl) ?_
  refine va_get (D := (dC, dI)) (ci := 8) (v := .ref h1) (C := RX8) (T := TX8) (N := 12) hx hb hts hinX8 hown hK hP 0 rfl rfl 0 (by decide) (hts (.fieldLink RX8 9 "MayRings" "tape" "[B") (List.mem_of_getElem? (i := 2) rfl)) (fun _ h9 => h9) rfl dX8_putOnTape_18 ?_
  refine lv_aload_n hx hb dX8_putOnTape_21 rfl (lv_at hl 1 rfl) ?_
  refine va_get (D := (dC, dI)) (ci := 8) (v := .int 19) (C := RX8) (T := TX8) (N := 12) hx hb hts hinX8 hown hK hP 0 rfl rfl 1 (by decide) (hts (.fieldLink RX8 13 "MayRings" "tapeLength" "I") (List.mem_of_getElem? (i := 1) rfl)) (fun _ h9 => h9) rfl dX8_putOnTape_22 ?_
  refine lv_iload_n hx hb dX8_putOnTape_25 rfl (lv_at hl 2 rfl) ?_
  refine lv_iload_n hx hb dX8_putOnTape_26 rfl (lv_at hl 0 rfl) ?_
  refine lv_iushr hx hb dX8_putOnTape_27 rfl ?_
  refine lv_i2b (v := (((p0.toUInt32 >>> ((0 : Int32).toUInt32 &&& Int32.toUInt32 31)).toInt32).toInt8.toInt32)) hx hb dX8_putOnTape_28 rfl ?_
  refine va_bast hx hb hK hP hD hS 1 0 rfl rfl (show ¬ (_ ∨ _) by decide) dX8_putOnTape_29 (fun H locs hP hD hS => ?_)
  have hP : va_P (dC, dI) vwCl [(h0, .inr (8, [.ref h1, .int 19, .ref h2, .ref h3, .ref h4, .ref h5, .ref h6, .ref h7, .ref h8, .ref h9, .ref h10, .ref h11])), (h1, .inl (cB, 1600, .inl (upd (upd (upd (upd g0 (16 : Int32).toNatClampNeg (vp_nar .byte (((p0.toUInt32 >>> ((24 : Int32).toUInt32 &&& Int32.toUInt32 31)).toInt32).toInt8.toInt32))) (17 : Int32).toNatClampNeg (vp_nar .byte (((p0.toUInt32 >>> ((16 : Int32).toUInt32 &&& Int32.toUInt32 31)).toInt32).toInt8.toInt32))) (18 : Int32).toNatClampNeg (vp_nar .byte (((p0.toUInt32 >>> ((8 : Int32).toUInt32 &&& Int32.toUInt32 31)).toInt32).toInt8.toInt32))) (19 : Int32).toNatClampNeg (vp_nar .byte (((p0.toUInt32 >>> ((0 : Int32).toUInt32 &&& Int32.toUInt32 31)).toInt32).toInt8.toInt32)))))] H := hP
  have hD : va_D A [(h0, .inr (8, [.ref h1, .int 19, .ref h2, .ref h3, .ref h4, .ref h5, .ref h6, .ref h7, .ref h8, .ref h9, .ref h10, .ref h11])), (h1, .inl (cB, 1600, .inl (upd (upd (upd (upd g0 (16 : Int32).toNatClampNeg (vp_nar .byte (((p0.toUInt32 >>> ((24 : Int32).toUInt32 &&& Int32.toUInt32 31)).toInt32).toInt8.toInt32))) (17 : Int32).toNatClampNeg (vp_nar .byte (((p0.toUInt32 >>> ((16 : Int32).toUInt32 &&& Int32.toUInt32 31)).toInt32).toInt8.toInt32))) (18 : Int32).toNatClampNeg (vp_nar .byte (((p0.toUInt32 >>> ((8 : Int32).toUInt32 &&& Int32.toUInt32 31)).toInt32).toInt8.toInt32))) (19 : Int32).toNatClampNeg (vp_nar .byte (((p0.toUInt32 >>> ((0 : Int32).toUInt32 &&& Int32.toUInt32 31)).toInt32).toInt8.toInt32)))))] := hD
  refine lv_aload_n hx hb dX8_putOnTape_30 rfl (lv_at hl 1 rfl) ?_
  refine lv_dup hx hb dX8_putOnTape_31 rfl ?_
  refine va_get (D := (dC, dI)) (ci := 8) (v := .int 19) (C := RX8) (T := TX8) (N := 12) hx hb hts hinX8 hown hK hP 0 rfl rfl 1 (by decide) (hts (.fieldLink RX8 13 "MayRings" "tapeLength" "I") (List.mem_of_getElem? (i := 1) rfl)) (fun _ h9 => h9) rfl dX8_putOnTape_32 ?_
  refine lv_iconst (v := 1) hx hb dX8_putOnTape_35 (by decide) ?_
  refine lv_iadd hx hb dX8_putOnTape_36 ?_
  refine tp_v (.int 20) (congrArg Value.int (by decide)) ?_
  refine va_put (D := (dC, dI)) (ci := 8) (v := .int 20) (ty := .int) (C := RX8) (T := TX8) (N := 12) hx hb hts hinX8 tyX8 tyX8_ok nmX8 hown hK hP hD hS 0 rfl rfl 1 (by decide) (hts (.fieldLink RX8 13 "MayRings" "tapeLength" "I") (List.mem_of_getElem? (i := 1) rfl)) (fun _ h9 => h9) rfl (by decide +kernel) rfl rfl (Nat.le_of_ble_eq_true rfl) dX8_putOnTape_37 (fun H locs hP hD hS => ?_)
  have hP : va_P (dC, dI) vwCl [(h0, .inr (8, [.ref h1, .int 20, .ref h2, .ref h3, .ref h4, .ref h5, .ref h6, .ref h7, .ref h8, .ref h9, .ref h10, .ref h11])), (h1, .inl (cB, 1600, .inl (upd (upd (upd (upd g0 (16 : Int32).toNatClampNeg (vp_nar .byte (((p0.toUInt32 >>> ((24 : Int32).toUInt32 &&& Int32.toUInt32 31)).toInt32).toInt8.toInt32))) (17 : Int32).toNatClampNeg (vp_nar .byte (((p0.toUInt32 >>> ((16 : Int32).toUInt32 &&& Int32.toUInt32 31)).toInt32).toInt8.toInt32))) (18 : Int32).toNatClampNeg (vp_nar .byte (((p0.toUInt32 >>> ((8 : Int32).toUInt32 &&& Int32.toUInt32 31)).toInt32).toInt8.toInt32))) (19 : Int32).toNatClampNeg (vp_nar .byte (((p0.toUInt32 >>> ((0 : Int32).toUInt32 &&& Int32.toUInt32 31)).toInt32).toInt8.toInt32)))))] H := hP
  have hD : va_D A [(h0, .inr (8, [.ref h1, .int 20, .ref h2, .ref h3, .ref h4, .ref h5, .ref h6, .ref h7, .ref h8, .ref h9, .ref h10, .ref h11])), (h1, .inl (cB, 1600, .inl (upd (upd (upd (upd g0 (16 : Int32).toNatClampNeg (vp_nar .byte (((p0.toUInt32 >>> ((24 : Int32).toUInt32 &&& Int32.toUInt32 31)).toInt32).toInt8.toInt32))) (17 : Int32).toNatClampNeg (vp_nar .byte (((p0.toUInt32 >>> ((16 : Int32).toUInt32 &&& Int32.toUInt32 31)).toInt32).toInt8.toInt32))) (18 : Int32).toNatClampNeg (vp_nar .byte (((p0.toUInt32 >>> ((8 : Int32).toUInt32 &&& Int32.toUInt32 31)).toInt32).toInt8.toInt32))) (19 : Int32).toNatClampNeg (vp_nar .byte (((p0.toUInt32 >>> ((0 : Int32).toUInt32 &&& Int32.toUInt32 31)).toInt32).toInt8.toInt32)))))] := hD
  refine lv_iinc (v := (-8)) (lv' := [(2, .int (-8)), (0, .ref h0), (1, .int p0)]) hx hb dX8_putOnTape_40 hl (k := 0) rfl (by decide) (by decide) rfl (fun ls hl => ?_)
  refine lv_goto (tgt := 3) hx hb dX8_putOnTape_43 (by decide) ?_
  refine lv_iload_n hx hb dX8_putOnTape_3 rfl (lv_at hl 0 rfl) ?_
  refine lv_if_lt (tgt := 46) hx hb dX8_putOnTape_4 (by decide) (fun _ => ?_) (fun cz => absurd (by decide) cz)
  have hP9 := hP.sub (ws' := [(h0, .inr (8, [.ref h1, .int 20, .ref h2, .ref h3, .ref h4, .ref h5, .ref h6, .ref h7, .ref h8, .ref h9, .ref h10, .ref h11])), (h1, .inl (cB, 1600, .inl (upd (upd (upd (upd g0 (16 : Int32).toNatClampNeg (vp_nar .byte (((p0.toUInt32 >>> ((24 : Int32).toUInt32 &&& Int32.toUInt32 31)).toInt32).toInt8.toInt32))) (17 : Int32).toNatClampNeg (vp_nar .byte (((p0.toUInt32 >>> ((16 : Int32).toUInt32 &&& Int32.toUInt32 31)).toInt32).toInt8.toInt32))) (18 : Int32).toNatClampNeg (vp_nar .byte (((p0.toUInt32 >>> ((8 : Int32).toUInt32 &&& Int32.toUInt32 31)).toInt32).toInt8.toInt32))) (19 : Int32).toNatClampNeg (vp_nar .byte (((p0.toUInt32 >>> ((0 : Int32).toUInt32 &&& Int32.toUInt32 31)).toInt32).toInt8.toInt32)))))]) [0, 1] rfl
  have hD9 := hD.sub (ws' := [(h0, .inr (8, [.ref h1, .int 20, .ref h2, .ref h3, .ref h4, .ref h5, .ref h6, .ref h7, .ref h8, .ref h9, .ref h10, .ref h11])), (h1, .inl (cB, 1600, .inl (upd (upd (upd (upd g0 (16 : Int32).toNatClampNeg (vp_nar .byte (((p0.toUInt32 >>> ((24 : Int32).toUInt32 &&& Int32.toUInt32 31)).toInt32).toInt8.toInt32))) (17 : Int32).toNatClampNeg (vp_nar .byte (((p0.toUInt32 >>> ((16 : Int32).toUInt32 &&& Int32.toUInt32 31)).toInt32).toInt8.toInt32))) (18 : Int32).toNatClampNeg (vp_nar .byte (((p0.toUInt32 >>> ((8 : Int32).toUInt32 &&& Int32.toUInt32 31)).toInt32).toInt8.toInt32))) (19 : Int32).toNatClampNeg (vp_nar .byte (((p0.toUInt32 >>> ((0 : Int32).toUInt32 &&& Int32.toUInt32 31)).toInt32).toInt8.toInt32)))))]) [0, 1] (by decide) rfl
  exact W.vret hx hb hr (fun t ht hW => ⟨⟨(), rfl, trivial, ⟨(upd (upd (upd (upd g0 (16 : Int32).toNatClampNeg (vp_nar .byte (((p0.toUInt32 >>> ((24 : Int32).toUInt32 &&& Int32.toUInt32 31)).toInt32).toInt8.toInt32))) (17 : Int32).toNatClampNeg (vp_nar .byte (((p0.toUInt32 >>> ((16 : Int32).toUInt32 &&& Int32.toUInt32 31)).toInt32).toInt8.toInt32))) (18 : Int32).toNatClampNeg (vp_nar .byte (((p0.toUInt32 >>> ((8 : Int32).toUInt32 &&& Int32.toUInt32 31)).toInt32).toInt8.toInt32))) (19 : Int32).toNatClampNeg (vp_nar .byte (((p0.toUInt32 >>> ((0 : Int32).toUInt32 &&& Int32.toUInt32 31)).toInt32).toInt8.toInt32))), by rw [ht]; exact hP9, hD9⟩⟩, hS.F ht⟩) hS.2.2 dX8_putOnTape_46
def v_X8_feed : List Cond := Cond.code yX8_feed cX8_feed 6 (some .int) :: ([Cond.fieldLink RX8 13 "MayRings" "tapeLength" "I", Cond.methodLink RX8 80 yX8_putOnTape, Cond.instanceMethod yX8_putOnTape, Cond.selects RX8 yX8_putOnTape yX8_putOnTape, Cond.initialized RX8] ++ (wsX80 ++ (v_X8_putOnTape ++ (v_X8_putOnTape_2 ++ (v_X8_putOnTape_3 ++ (v_X8_putOnTape_4 ++ (v_X8_putOnTape_5 ++ ([]))))))))
theorem k_X8_feed : GoodIn lw_tbl v_X8_feed := gd_c (List.mem_of_getElem? (i := 571) (by decide +kernel)) rfl (goodIn_app (gd_c (List.mem_of_getElem? (i := 532) (by decide +kernel)) rfl (gd_c (List.mem_of_getElem? (i := 572) (by decide +kernel)) rfl (gd_c (List.mem_of_getElem? (i := 574) (by decide +kernel)) rfl (gd_c (List.mem_of_getElem? (i := 1) (by decide +kernel)) rfl (gd_c (List.mem_of_getElem? (i := 130) (by decide +kernel)) rfl (gd_nil)))))) (goodIn_app kfX8 (goodIn_app k_X8_putOnTape (goodIn_app k_X8_putOnTape_2 (goodIn_app k_X8_putOnTape_3 (goodIn_app k_X8_putOnTape_4 (goodIn_app k_X8_putOnTape_5 (gd_nil))))))))
set_option maxHeartbeats 600000 in
set_option maxRecDepth 100000 in
theorem c_X8_feed (l : Launch) (dC : Nat → ClassId) (dI : Nat → Nat → Nat) (cB cI cJ cZ cP : ClassId) (h0 : Nat) (p0 : Int32) (p1 : Int32) (p2 : Int32) (p3 : Int32) (p4 : Int32) (h1 : Nat) (h2 : Nat) (h3 : Nat) (h4 : Nat) (h5 : Nat) (h6 : Nat) (h7 : Nat) (h8 : Nat) (h9 : Nat) (h10 : Nat) (h11 : Nat) (sz : Nat) : Met l yX8_feed v_X8_feed ({ frames := 1, cells := 0, slots := 0, locals := 22 }) (va_Pc [.ref h0, .int p0, .int p1, .int p2, .int p3, .int p4] (fun U => U.heap.size = sz ∧ va_P (dC, dI) vwCl [(h0, .inr (8, [.ref h1, .int 0, .ref h2, .ref h3, .ref h4, .ref h5, .ref h6, .ref h7, .ref h8, .ref h9, .ref h10, .ref h11])), (h1, .inl (cB, 1600, .inl (fun _ => 0)))] U.heap ∧ va_K (dC, dI) vwCl (ty5 cB cI cJ cZ cP) U ∧ va_D (fun _ => True) [(h0, .inr (8, [.ref h1, .int 0, .ref h2, .ref h3, .ref h4, .ref h5, .ref h6, .ref h7, .ref h8, .ref h9, .ref h10, .ref h11])), (h1, .inl (cB, 1600, .inl (fun _ => 0)))])) (va_Qi (fun (r : Int32) (_ : Unit) => r = 20) (fun _ t => t = t) (va_A [(h0, .inr (8, [.ref h1, .int 0, .ref h2, .ref h3, .ref h4, .ref h5, .ref h6, .ref h7, .ref h8, .ref h9, .ref h10, .ref h11])), (h1, .inl (cB, 1600, .inl (fun _ => 0)))] sz)) 0 0 (va_A [(h0, .inr (8, [.ref h1, .int 0, .ref h2, .ref h3, .ref h4, .ref h5, .ref h6, .ref h7, .ref h8, .ref h9, .ref h10, .ref h11])), (h1, .inl (cB, 1600, .inl (fun _ => 0)))] sz) := by
  refine Met.ofW (cc := cX8_feed) (maxL := 6) (ret := (some .int)) (by decide) rfl ?_
  intro p e s m args below meth c s₁ B hml hv
  obtain ⟨rfl, hsz, hP, hK, hD0⟩ := hv
  have hx := B.exec
  have hb := B.bytes
  have hr := B.returns
  have hts := atoms_spec (ws := v_X8_feed) B.pre
  have hown : s.vm.findClass RX8 = some m.cls := findClass_of_methodNamed B.named
  have hlocks := B.notSynchronized
  have hinX8 : ∀ w ∈ wsX80, w ∈ v_X8_feed := fun _ h => List.mem_cons_of_mem _ (List.mem_append_right _ (List.mem_append_left _ h))
  subst hsz
  have hD := hD0.self (sz := s.heap.size)
  generalize hAe : va_A [(h0, .inr (8, [.ref h1, .int 0, .ref h2, .ref h3, .ref h4, .ref h5, .ref h6, .ref h7, .ref h8, .ref h9, .ref h10, .ref h11])), (h1, .inl (cB, 1600, .inl (fun _ => 0)))] s.heap.size = A at hD ⊢
  have hA : ∀ q : Nat, s.heap.size ≤ q → A q := fun q h => by rw [← hAe]; exact Or.inr h
  have hP : va_P (dC, dI) vwCl [(h0, .inr (8, [.ref h1, .int 0, .ref h2, .ref h3, .ref h4, .ref h5, .ref h6, .ref h7, .ref h8, .ref h9, .ref h10, .ref h11])), (h1, .inl (cB, 1600, .inl (fun _ => 0)))] s.heap := hP
  have hl := lv_entry ([.ref h0, .int p0, .int p1, .int p2, .int p3, .int p4]) (n := 6) (Nat.le_of_ble_eq_true rfl)
  rw [lg_entry_eq]
  generalize (lg_sl ([.ref h0, .int p0, .int p1, .int p2, .int p3, .int p4]) ++ List.replicate (6 - (lg_sl ([.ref h0, .int p0, .int p1, .int p2, .int p3, .int p4])).length) Slot.unset).toArray = ls at hl ⊢
  have hl : lv_has ls 6 [(0, .ref h0), (1, .int p0), (2, .int p1), (3, .int p2), (4, .int p3), (5, .int p4)] := hl
  refine W_gen (A := A) hP (fun H locs hP hS => ?_)
  refine lv_aload_n hx hb dX8_feed_0 rfl (lv_at hl 0 rfl) ?_
  refine va_get (D := (dC, dI)) (ci := 8) (v := .int 0) (C := RX8) (T := TX8) (N := 12) hx hb hts hinX8 hown hK hP 0 rfl rfl 1 (by decide) (hts (.fieldLink RX8 13 "MayRings" "tapeLength" "I") (List.mem_of_getElem? (i := 1) rfl)) (fun _ h9 => h9) rfl dX8_feed_1 ?_
  refine lv_bipush (v := 20) hx hb dX8_feed_4 (by decide) ?_
  refine lv_iadd hx hb dX8_feed_6 ?_
  refine tp_v (.int 20) (congrArg Value.int (by decide)) ?_
  refine lv_sipush (v := 1600) hx hb dX8_feed_7 (by decide) ?_
  refine lv_icmp_le (tgt := 15) hx hb dX8_feed_10 (by decide) (fun _ => ?_) (fun cz => absurd (by decide) cz)
  refine lv_aload_n hx hb dX8_feed_15 rfl (lv_at hl 0 rfl) ?_
  refine lv_iload_n hx hb dX8_feed_16 rfl (lv_at hl 1 rfl) ?_
  have hPc := hP.sub (ws' := [(h0, .inr (8, [.ref h1, .int 0, .ref h2, .ref h3, .ref h4, .ref h5, .ref h6, .ref h7, .ref h8, .ref h9, .ref h10, .ref h11])), (h1, .inl (cB, 1600, .inl (fun _ => 0)))]) [0, 1] rfl
  have hDc := hD.sub (ws' := [(h0, .inr (8, [.ref h1, .int 0, .ref h2, .ref h3, .ref h4, .ref h5, .ref h6, .ref h7, .ref h8, .ref h9, .ref h10, .ref h11])), (h1, .inl (cB, 1600, .inl (fun _ => 0)))]) [0, 1] (by decide) rfl
  have hFc := va_free (wc := [(h0, .inr (8, [.ref h1, .int 0, .ref h2, .ref h3, .ref h4, .ref h5, .ref h6, .ref h7, .ref h8, .ref h9, .ref h10, .ref h11])), (h1, .inl (cB, 1600, .inl (fun _ => 0)))]) hD hS hA [0, 1] rfl
  refine va_callv (va_runV (As := [.int p0]) (rest := []) ⟨hx, hb, hml, hown, hts⟩ (c_X8_putOnTape l dC dI cB cI cJ cZ cP h0 p0 h1 h2 h3 h4 h5 h6 h7 h8 h9 h10 h11 H.size) (cwV 1 hts (gd_V (List.mem_of_getElem? (i := 2) rfl) (List.mem_of_getElem? (i := 3) rfl) (List.mem_of_getElem? (i := 4) rfl) (List.mem_of_getElem? (i := 5) rfl) (gd_mono k_X8_putOnTape (fun _ h => List.mem_cons_of_mem _ (List.mem_append_right _ (List.mem_append_right _ (List.mem_append_left _ h)))))) rfl rfl rfl (by decide +kernel) ⟨Nat.le_of_ble_eq_true rfl, Nat.le_of_ble_eq_true rfl⟩) ⟨fun a U g mk q => by obtain ⟨q0, q1, qP, qK, qD⟩ := q; exact ⟨q0, q1, qP, va_K.moved (u := U) (U := U.calling g mk a) (Vm.Alike.refl U.vm) qK, qD⟩, va_recv hK hPc (ci := 8) (q0 := 0) rfl rfl, fun U hU hW => ⟨rfl, by rw [hU], by rw [hU]; exact hPc, va_K.moved hW.alike hK, hDc.weaken (fun _ _ _ _ => trivial)⟩⟩ rfl rfl hl.1 rfl (lv_room (Nat.le_of_ble_eq_true rfl)) dX8_feed_17 ⟨Nat.le_of_ble_eq_true rfl, Nat.le_of_ble_eq_true rfl⟩) hS (fun q _ h => hFc q h) hFc (fun u t H1 locs ht hvm hw hB hz1 hk1 hS => ?_)
  obtain ⟨z709, hP1, hD1⟩ := hB
  rw [ht] at hP1
  obtain ⟨hP, hD⟩ := va_join (wr := []) (w1 := [(h0, .inr (8, [.ref h1, .int 4, .ref h2, .ref h3, .ref h4, .ref h5, .ref h6, .ref h7, .ref h8, .ref h9, .ref h10, .ref h11])), (h1, .inl (cB, 1600, .inl z709))]) hP hD [0, 1] [] rfl rfl (by decide) (by decide) hk1 hFc hP1 hD1
  generalize H1 = H at hP hS ⊢
  have hP : va_P (dC, dI) vwCl [(h0, .inr (8, [.ref h1, .int 4, .ref h2, .ref h3, .ref h4, .ref h5, .ref h6, .ref h7, .ref h8, .ref h9, .ref h10, .ref h11])), (h1, .inl (cB, 1600, .inl z709))] H := hP
  have hD : va_D A [(h0, .inr (8, [.ref h1, .int 4, .ref h2, .ref h3, .ref h4, .ref h5, .ref h6, .ref h7, .ref h8, .ref h9, .ref h10, .ref h11])), (h1, .inl (cB, 1600, .inl z709))] := hD
  refine lv_aload_n hx hb dX8_feed_20 rfl (lv_at hl 0 rfl) ?_
  refine lv_iload_n hx hb dX8_feed_21 rfl (lv_at hl 2 rfl) ?_
  have hPc := hP.sub (ws' := [(h0, .inr (8, [.ref h1, .int 4, .ref h2, .ref h3, .ref h4, .ref h5, .ref h6, .ref h7, .ref h8, .ref h9, .ref h10, .ref h11])), (h1, .inl (cB, 1600, .inl z709))]) [0, 1] rfl
  have hDc := hD.sub (ws' := [(h0, .inr (8, [.ref h1, .int 4, .ref h2, .ref h3, .ref h4, .ref h5, .ref h6, .ref h7, .ref h8, .ref h9, .ref h10, .ref h11])), (h1, .inl (cB, 1600, .inl z709))]) [0, 1] (by decide) rfl
  have hFc := va_free (wc := [(h0, .inr (8, [.ref h1, .int 4, .ref h2, .ref h3, .ref h4, .ref h5, .ref h6, .ref h7, .ref h8, .ref h9, .ref h10, .ref h11])), (h1, .inl (cB, 1600, .inl z709))]) hD hS hA [0, 1] rfl
  refine va_callv (va_runV (As := [.int p1]) (rest := []) ⟨hx, hb, hml, hown, hts⟩ (c_X8_putOnTape_2 l dC dI cB cI cJ cZ cP h0 p1 h1 h2 h3 h4 h5 h6 h7 h8 h9 h10 h11 z709 H.size) (cwV 1 hts (gd_V (List.mem_of_getElem? (i := 2) rfl) (List.mem_of_getElem? (i := 3) rfl) (List.mem_of_getElem? (i := 4) rfl) (List.mem_of_getElem? (i := 5) rfl) (gd_mono k_X8_putOnTape_2 (fun _ h => List.mem_cons_of_mem _ (List.mem_append_right _ (List.mem_append_right _ (List.mem_append_right _ (List.mem_append_left _ h))))))) rfl rfl rfl (by decide +kernel) ⟨Nat.le_of_ble_eq_true rfl, Nat.le_of_ble_eq_true rfl⟩) ⟨fun a U g mk q => by obtain ⟨q0, q1, qP, qK, qD⟩ := q; exact ⟨q0, q1, qP, va_K.moved (u := U) (U := U.calling g mk a) (Vm.Alike.refl U.vm) qK, qD⟩, va_recv hK hPc (ci := 8) (q0 := 0) rfl rfl, fun U hU hW => ⟨rfl, by rw [hU], by rw [hU]; exact hPc, va_K.moved hW.alike hK, hDc.weaken (fun _ _ _ _ => trivial)⟩⟩ rfl rfl hl.1 rfl (lv_room (Nat.le_of_ble_eq_true rfl)) dX8_feed_22 ⟨Nat.le_of_ble_eq_true rfl, Nat.le_of_ble_eq_true rfl⟩) hS (fun q _ h => hFc q h) hFc (fun u t H1 locs ht hvm hw hB hz1 hk1 hS => ?_)
  obtain ⟨z710, hP1, hD1⟩ := hB
  rw [ht] at hP1
  obtain ⟨hP, hD⟩ := va_join (wr := []) (w1 := [(h0, .inr (8, [.ref h1, .int 8, .ref h2, .ref h3, .ref h4, .ref h5, .ref h6, .ref h7, .ref h8, .ref h9, .ref h10, .ref h11])), (h1, .inl (cB, 1600, .inl z710))]) hP hD [0, 1] [] rfl rfl (by decide) (by decide) hk1 hFc hP1 hD1
  generalize H1 = H at hP hS ⊢
  have hP : va_P (dC, dI) vwCl [(h0, .inr (8, [.ref h1, .int 8, .ref h2, .ref h3, .ref h4, .ref h5, .ref h6, .ref h7, .ref h8, .ref h9, .ref h10, .ref h11])), (h1, .inl (cB, 1600, .inl z710))] H := hP
  have hD : va_D A [(h0, .inr (8, [.ref h1, .int 8, .ref h2, .ref h3, .ref h4, .ref h5, .ref h6, .ref h7, .ref h8, .ref h9, .ref h10, .ref h11])), (h1, .inl (cB, 1600, .inl z710))] := hD
  refine lv_aload_n hx hb dX8_feed_25 rfl (lv_at hl 0 rfl) ?_
  refine lv_iload_n hx hb dX8_feed_26 rfl (lv_at hl 3 rfl) ?_
  have hPc := hP.sub (ws' := [(h0, .inr (8, [.ref h1, .int 8, .ref h2, .ref h3, .ref h4, .ref h5, .ref h6, .ref h7, .ref h8, .ref h9, .ref h10, .ref h11])), (h1, .inl (cB, 1600, .inl z710))]) [0, 1] rfl
  have hDc := hD.sub (ws' := [(h0, .inr (8, [.ref h1, .int 8, .ref h2, .ref h3, .ref h4, .ref h5, .ref h6, .ref h7, .ref h8, .ref h9, .ref h10, .ref h11])), (h1, .inl (cB, 1600, .inl z710))]) [0, 1] (by decide) rfl
  have hFc := va_free (wc := [(h0, .inr (8, [.ref h1, .int 8, .ref h2, .ref h3, .ref h4, .ref h5, .ref h6, .ref h7, .ref h8, .ref h9, .ref h10, .ref h11])), (h1, .inl (cB, 1600, .inl z710))]) hD hS hA [0, 1] rfl
  refine va_callv (va_runV (As := [.int p2]) (rest := []) ⟨hx, hb, hml, hown, hts⟩ (c_X8_putOnTape_3 l dC dI cB cI cJ cZ cP h0 p2 h1 h2 h3 h4 h5 h6 h7 h8 h9 h10 h11 z710 H.size) (cwV 1 hts (gd_V (List.mem_of_getElem? (i := 2) rfl) (List.mem_of_getElem? (i := 3) rfl) (List.mem_of_getElem? (i := 4) rfl) (List.mem_of_getElem? (i := 5) rfl) (gd_mono k_X8_putOnTape_3 (fun _ h => List.mem_cons_of_mem _ (List.mem_append_right _ (List.mem_append_right _ (List.mem_append_right _ (List.mem_append_right _ (List.mem_append_left _ h)))))))) rfl rfl rfl (by decide +kernel) ⟨Nat.le_of_ble_eq_true rfl, Nat.le_of_ble_eq_true rfl⟩) ⟨fun a U g mk q => by obtain ⟨q0, q1, qP, qK, qD⟩ := q; exact ⟨q0, q1, qP, va_K.moved (u := U) (U := U.calling g mk a) (Vm.Alike.refl U.vm) qK, qD⟩, va_recv hK hPc (ci := 8) (q0 := 0) rfl rfl, fun U hU hW => ⟨rfl, by rw [hU], by rw [hU]; exact hPc, va_K.moved hW.alike hK, hDc.weaken (fun _ _ _ _ => trivial)⟩⟩ rfl rfl hl.1 rfl (lv_room (Nat.le_of_ble_eq_true rfl)) dX8_feed_27 ⟨Nat.le_of_ble_eq_true rfl, Nat.le_of_ble_eq_true rfl⟩) hS (fun q _ h => hFc q h) hFc (fun u t H1 locs ht hvm hw hB hz1 hk1 hS => ?_)
  obtain ⟨z711, hP1, hD1⟩ := hB
  rw [ht] at hP1
  obtain ⟨hP, hD⟩ := va_join (wr := []) (w1 := [(h0, .inr (8, [.ref h1, .int 12, .ref h2, .ref h3, .ref h4, .ref h5, .ref h6, .ref h7, .ref h8, .ref h9, .ref h10, .ref h11])), (h1, .inl (cB, 1600, .inl z711))]) hP hD [0, 1] [] rfl rfl (by decide) (by decide) hk1 hFc hP1 hD1
  generalize H1 = H at hP hS ⊢
  have hP : va_P (dC, dI) vwCl [(h0, .inr (8, [.ref h1, .int 12, .ref h2, .ref h3, .ref h4, .ref h5, .ref h6, .ref h7, .ref h8, .ref h9, .ref h10, .ref h11])), (h1, .inl (cB, 1600, .inl z711))] H := hP
  have hD : va_D A [(h0, .inr (8, [.ref h1, .int 12, .ref h2, .ref h3, .ref h4, .ref h5, .ref h6, .ref h7, .ref h8, .ref h9, .ref h10, .ref h11])), (h1, .inl (cB, 1600, .inl z711))] := hD
  refine lv_aload_n hx hb dX8_feed_30 rfl (lv_at hl 0 rfl) ?_
  refine lv_iload hx hb dX8_feed_31 (lv_at hl 4 rfl) ?_
  have hPc := hP.sub (ws' := [(h0, .inr (8, [.ref h1, .int 12, .ref h2, .ref h3, .ref h4, .ref h5, .ref h6, .ref h7, .ref h8, .ref h9, .ref h10, .ref h11])), (h1, .inl (cB, 1600, .inl z711))]) [0, 1] rfl
  have hDc := hD.sub (ws' := [(h0, .inr (8, [.ref h1, .int 12, .ref h2, .ref h3, .ref h4, .ref h5, .ref h6, .ref h7, .ref h8, .ref h9, .ref h10, .ref h11])), (h1, .inl (cB, 1600, .inl z711))]) [0, 1] (by decide) rfl
  have hFc := va_free (wc := [(h0, .inr (8, [.ref h1, .int 12, .ref h2, .ref h3, .ref h4, .ref h5, .ref h6, .ref h7, .ref h8, .ref h9, .ref h10, .ref h11])), (h1, .inl (cB, 1600, .inl z711))]) hD hS hA [0, 1] rfl
  refine va_callv (va_runV (As := [.int p3]) (rest := []) ⟨hx, hb, hml, hown, hts⟩ (c_X8_putOnTape_4 l dC dI cB cI cJ cZ cP h0 p3 h1 h2 h3 h4 h5 h6 h7 h8 h9 h10 h11 z711 H.size) (cwV 1 hts (gd_V (List.mem_of_getElem? (i := 2) rfl) (List.mem_of_getElem? (i := 3) rfl) (List.mem_of_getElem? (i := 4) rfl) (List.mem_of_getElem? (i := 5) rfl) (gd_mono k_X8_putOnTape_4 (fun _ h => List.mem_cons_of_mem _ (List.mem_append_right _ (List.mem_append_right _ (List.mem_append_right _ (List.mem_append_right _ (List.mem_append_right _ (List.mem_append_left _ h))))))))) rfl rfl rfl (by decide +kernel) ⟨Nat.le_of_ble_eq_true rfl, Nat.le_of_ble_eq_true rfl⟩) ⟨fun a U g mk q => by obtain ⟨q0, q1, qP, qK, qD⟩ := q; exact ⟨q0, q1, qP, va_K.moved (u := U) (U := U.calling g mk a) (Vm.Alike.refl U.vm) qK, qD⟩, va_recv hK hPc (ci := 8) (q0 := 0) rfl rfl, fun U hU hW => ⟨rfl, by rw [hU], by rw [hU]; exact hPc, va_K.moved hW.alike hK, hDc.weaken (fun _ _ _ _ => trivial)⟩⟩ rfl rfl hl.1 rfl (lv_room (Nat.le_of_ble_eq_true rfl)) dX8_feed_33 ⟨Nat.le_of_ble_eq_true rfl, Nat.le_of_ble_eq_true rfl⟩) hS (fun q _ h => hFc q h) hFc (fun u t H1 locs ht hvm hw hB hz1 hk1 hS => ?_)
  obtain ⟨z712, hP1, hD1⟩ := hB
  rw [ht] at hP1
  obtain ⟨hP, hD⟩ := va_join (wr := []) (w1 := [(h0, .inr (8, [.ref h1, .int 16, .ref h2, .ref h3, .ref h4, .ref h5, .ref h6, .ref h7, .ref h8, .ref h9, .ref h10, .ref h11])), (h1, .inl (cB, 1600, .inl z712))]) hP hD [0, 1] [] rfl rfl (by decide) (by decide) hk1 hFc hP1 hD1
  generalize H1 = H at hP hS ⊢
  have hP : va_P (dC, dI) vwCl [(h0, .inr (8, [.ref h1, .int 16, .ref h2, .ref h3, .ref h4, .ref h5, .ref h6, .ref h7, .ref h8, .ref h9, .ref h10, .ref h11])), (h1, .inl (cB, 1600, .inl z712))] H := hP
  have hD : va_D A [(h0, .inr (8, [.ref h1, .int 16, .ref h2, .ref h3, .ref h4, .ref h5, .ref h6, .ref h7, .ref h8, .ref h9, .ref h10, .ref h11])), (h1, .inl (cB, 1600, .inl z712))] := hD
  refine lv_aload_n hx hb dX8_feed_36 rfl (lv_at hl 0 rfl) ?_
  refine lv_iload hx hb dX8_feed_37 (lv_at hl 5 rfl) ?_
  have hPc := hP.sub (ws' := [(h0, .inr (8, [.ref h1, .int 16, .ref h2, .ref h3, .ref h4, .ref h5, .ref h6, .ref h7, .ref h8, .ref h9, .ref h10, .ref h11])), (h1, .inl (cB, 1600, .inl z712))]) [0, 1] rfl
  have hDc := hD.sub (ws' := [(h0, .inr (8, [.ref h1, .int 16, .ref h2, .ref h3, .ref h4, .ref h5, .ref h6, .ref h7, .ref h8, .ref h9, .ref h10, .ref h11])), (h1, .inl (cB, 1600, .inl z712))]) [0, 1] (by decide) rfl
  have hFc := va_free (wc := [(h0, .inr (8, [.ref h1, .int 16, .ref h2, .ref h3, .ref h4, .ref h5, .ref h6, .ref h7, .ref h8, .ref h9, .ref h10, .ref h11])), (h1, .inl (cB, 1600, .inl z712))]) hD hS hA [0, 1] rfl
  refine va_callv (va_runV (As := [.int p4]) (rest := []) ⟨hx, hb, hml, hown, hts⟩ (c_X8_putOnTape_5 l dC dI cB cI cJ cZ cP h0 p4 h1 h2 h3 h4 h5 h6 h7 h8 h9 h10 h11 z712 H.size) (cwV 1 hts (gd_V (List.mem_of_getElem? (i := 2) rfl) (List.mem_of_getElem? (i := 3) rfl) (List.mem_of_getElem? (i := 4) rfl) (List.mem_of_getElem? (i := 5) rfl) (gd_mono k_X8_putOnTape_5 (fun _ h => List.mem_cons_of_mem _ (List.mem_append_right _ (List.mem_append_right _ (List.mem_append_right _ (List.mem_append_right _ (List.mem_append_right _ (List.mem_append_right _ (List.mem_append_left _ h)))))))))) rfl rfl rfl (by decide +kernel) ⟨Nat.le_of_ble_eq_true rfl, Nat.le_of_ble_eq_true rfl⟩) ⟨fun a U g mk q => by obtain ⟨q0, q1, qP, qK, qD⟩ := q; exact ⟨q0, q1, qP, va_K.moved (u := U) (U := U.calling g mk a) (Vm.Alike.refl U.vm) qK, qD⟩, va_recv hK hPc (ci := 8) (q0 := 0) rfl rfl, fun U hU hW => ⟨rfl, by rw [hU], by rw [hU]; exact hPc, va_K.moved hW.alike hK, hDc.weaken (fun _ _ _ _ => trivial)⟩⟩ rfl rfl hl.1 rfl (lv_room (Nat.le_of_ble_eq_true rfl)) dX8_feed_39 ⟨Nat.le_of_ble_eq_true rfl, Nat.le_of_ble_eq_true rfl⟩) hS (fun q _ h => hFc q h) hFc (fun u t H1 locs ht hvm hw hB hz1 hk1 hS => ?_)
  obtain ⟨z713, hP1, hD1⟩ := hB
  rw [ht] at hP1
  obtain ⟨hP, hD⟩ := va_join (wr := []) (w1 := [(h0, .inr (8, [.ref h1, .int 20, .ref h2, .ref h3, .ref h4, .ref h5, .ref h6, .ref h7, .ref h8, .ref h9, .ref h10, .ref h11])), (h1, .inl (cB, 1600, .inl z713))]) hP hD [0, 1] [] rfl rfl (by decide) (by decide) hk1 hFc hP1 hD1
  generalize H1 = H at hP hS ⊢
  have hP : va_P (dC, dI) vwCl [(h0, .inr (8, [.ref h1, .int 20, .ref h2, .ref h3, .ref h4, .ref h5, .ref h6, .ref h7, .ref h8, .ref h9, .ref h10, .ref h11])), (h1, .inl (cB, 1600, .inl z713))] H := hP
  have hD : va_D A [(h0, .inr (8, [.ref h1, .int 20, .ref h2, .ref h3, .ref h4, .ref h5, .ref h6, .ref h7, .ref h8, .ref h9, .ref h10, .ref h11])), (h1, .inl (cB, 1600, .inl z713))] := hD
  refine lv_aload_n hx hb dX8_feed_42 rfl (lv_at hl 0 rfl) ?_
  refine va_get (D := (dC, dI)) (ci := 8) (v := .int 20) (C := RX8) (T := TX8) (N := 12) hx hb hts hinX8 hown hK hP 0 rfl rfl 1 (by decide) (hts (.fieldLink RX8 13 "MayRings" "tapeLength" "I") (List.mem_of_getElem? (i := 1) rfl)) (fun _ h9 => h9) rfl dX8_feed_43 ?_
  exact W.iret (v := 20) hx hb hr (fun t ht hW => ⟨⟨20, (), rfl, rfl, rfl⟩, hS.F ht⟩) hS.2.2 dX8_feed_46
def v_X8_end : List Cond := Cond.code yX8_end cX8_end 2 (some .int) :: ([Cond.fieldLink RX8 13 "MayRings" "tapeLength" "I"] ++ (wsX80 ++ ([])))
theorem k_X8_end : GoodIn lw_tbl v_X8_end := gd_c (List.mem_of_getElem? (i := 579) (by decide +kernel)) rfl (goodIn_app (gd_c (List.mem_of_getElem? (i := 532) (by decide +kernel)) rfl (gd_nil)) (goodIn_app kfX8 (gd_nil)))
set_option maxHeartbeats 600000 in
set_option maxRecDepth 100000 in
theorem c_X8_end (l : Launch) (dC : Nat → ClassId) (dI : Nat → Nat → Nat) (cB cI cJ cZ cP : ClassId) (h0 : Nat) (p0 : Int32) (h1 : Nat) (h2 : Nat) (h3 : Nat) (h4 : Nat) (h5 : Nat) (h6 : Nat) (h7 : Nat) (h8 : Nat) (h9 : Nat) (h10 : Nat) (h11 : Nat) (sz : Nat) : Met l yX8_end v_X8_end ({ frames := 0, cells := 0, slots := 0, locals := 0 }) (va_Pc [.ref h0, .int p0] (fun U => U.heap.size = sz ∧ va_P (dC, dI) vwCl [(h0, .inr (8, [.ref h1, .int 0, .ref h2, .ref h3, .ref h4, .ref h5, .ref h6, .ref h7, .ref h8, .ref h9, .ref h10, .ref h11]))] U.heap ∧ va_K (dC, dI) vwCl (ty5 cB cI cJ cZ cP) U ∧ va_D (fun _ => True) [(h0, .inr (8, [.ref h1, .int 0, .ref h2, .ref h3, .ref h4, .ref h5, .ref h6, .ref h7, .ref h8, .ref h9, .ref h10, .ref h11]))])) (va_Qi (fun (r : Int32) (_ : Unit) => r = (if p0 < 0 ∨ 0 < p0 then -1 else p0)) (fun _ t => t = t) (va_A [(h0, .inr (8, [.ref h1, .int 0, .ref h2, .ref h3, .ref h4, .ref h5, .ref h6, .ref h7, .ref h8, .ref h9, .ref h10, .ref h11]))] sz)) 0 0 (va_A [(h0, .inr (8, [.ref h1, .int 0, .ref h2, .ref h3, .ref h4, .ref h5, .ref h6, .ref h7, .ref h8, .ref h9, .ref h10, .ref h11]))] sz) := by
  refine Met.ofW (cc := cX8_end) (maxL := 2) (ret := (some .int)) (by decide) rfl ?_
  intro p e s m args below meth c s₁ B hml hv
  obtain ⟨rfl, hsz, hP, hK, hD0⟩ := hv
  have hx := B.exec
  have hb := B.bytes
  have hr := B.returns
  have hts := atoms_spec (ws := v_X8_end) B.pre
  have hown : s.vm.findClass RX8 = some m.cls := findClass_of_methodNamed B.named
  have hlocks := B.notSynchronized
  have hinX8 : ∀ w ∈ wsX80, w ∈ v_X8_end := fun _ h => List.mem_cons_of_mem _ (List.mem_append_right _ (List.mem_append_left _ h))
  subst hsz
  have hD := hD0.self (sz := s.heap.size)
  generalize hAe : va_A [(h0, .inr (8, [.ref h1, .int 0, .ref h2, .ref h3, .ref h4, .ref h5, .ref h6, .ref h7, .ref h8, .ref h9, .ref h10, .ref h11]))] s.heap.size = A at hD ⊢
  have hA : ∀ q : Nat, s.heap.size ≤ q → A q := fun q h => by rw [← hAe]; exact Or.inr h
  have hP : va_P (dC, dI) vwCl [(h0, .inr (8, [.ref h1, .int 0, .ref h2, .ref h3, .ref h4, .ref h5, .ref h6, .ref h7, .ref h8, .ref h9, .ref h10, .ref h11]))] s.heap := hP
  have hl := lv_entry ([.ref h0, .int p0]) (n := 2) (Nat.le_of_ble_eq_true rfl)
  rw [lg_entry_eq]
  generalize (lg_sl ([.ref h0, .int p0]) ++ List.replicate (2 - (lg_sl ([.ref h0, .int p0])).length) Slot.unset).toArray = ls at hl ⊢
  have hl : lv_has ls 2 [(0, .ref h0), (1, .int p0)] := hl
  refine W_gen (A := A) hP (fun H locs hP hS => ?_)
  refine lv_iload_n hx hb dX8_end_0 rfl (lv_at hl 1 rfl) ?_
  refine lv_if_lt (tgt := 12) hx hb dX8_end_1 (by decide) (fun c_1 => ?_) (fun c_1 => ?_)
  · skip
    refine lv_iconst (v := (-1)) hx hb dX8_end_12 (by decide) ?_
    exact W.iret (v := (-1)) hx hb hr (fun t ht hW => ⟨⟨(-1), (), rfl, by first | decide | (rw [if_pos (by (try simp only [fa_lt, fa_le, fa_eq, (by decide : (0 : Int32).toInt = 0)] at c_1 ⊢); omega)]; done) | (rw [if_neg (by (try simp only [fa_lt, fa_le, fa_eq, (by decide : (0 : Int32).toInt = 0)] at c_1 ⊢); omega)]; done) | (rw [if_neg (by (try simp only [fa_lt, fa_le, fa_eq, (by decide : (0 : Int32).toInt = 0)] at c_1 ⊢); omega), if_pos (by (try simp only [fa_lt, fa_le, fa_eq, (by decide : (0 : Int32).toInt = 0)] at c_1 ⊢); omega)]; done) | (rw [if_neg (by (try simp only [fa_lt, fa_le, fa_eq, (by decide : (0 : Int32).toInt = 0)] at c_1 ⊢); omega), if_neg (by (try simp only [fa_lt, fa_le, fa_eq, (by decide : (0 : Int32).toInt = 0)] at c_1 ⊢); omega)]; done), rfl⟩, hS.F ht⟩) hS.2.2 dX8_end_13
  · skip
    refine lv_iload_n hx hb dX8_end_4 rfl (lv_at hl 1 rfl) ?_
    refine lv_aload_n hx hb dX8_end_5 rfl (lv_at hl 0 rfl) ?_
    refine va_get (D := (dC, dI)) (ci := 8) (v := .int 0) (C := RX8) (T := TX8) (N := 12) hx hb hts hinX8 hown hK hP 0 rfl rfl 1 (by decide) (hts (.fieldLink RX8 13 "MayRings" "tapeLength" "I") (List.mem_of_getElem? (i := 1) rfl)) (fun _ h9 => h9) rfl dX8_end_6 ?_
    refine lv_icmp_le (tgt := 14) hx hb dX8_end_9 (by decide) (fun c_2 => ?_) (fun c_2 => ?_)
    · skip
      refine lv_aload_n hx hb dX8_end_14 rfl (lv_at hl 0 rfl) ?_
      refine lv_iload_n hx hb dX8_end_15 rfl (lv_at hl 1 rfl) ?_
      refine va_put (D := (dC, dI)) (ci := 8) (v := .int p0) (ty := .int) (C := RX8) (T := TX8) (N := 12) hx hb hts hinX8 tyX8 tyX8_ok nmX8 hown hK hP hD hS 0 rfl rfl 1 (by decide) (hts (.fieldLink RX8 13 "MayRings" "tapeLength" "I") (List.mem_of_getElem? (i := 1) rfl)) (fun _ h9 => h9) rfl (by decide +kernel) rfl rfl (Nat.le_of_ble_eq_true rfl) dX8_end_16 (fun H locs hP hD hS => ?_)
      have hP : va_P (dC, dI) vwCl [(h0, .inr (8, [.ref h1, .int p0, .ref h2, .ref h3, .ref h4, .ref h5, .ref h6, .ref h7, .ref h8, .ref h9, .ref h10, .ref h11]))] H := hP
      have hD : va_D A [(h0, .inr (8, [.ref h1, .int p0, .ref h2, .ref h3, .ref h4, .ref h5, .ref h6, .ref h7, .ref h8, .ref h9, .ref h10, .ref h11]))] := hD
      refine lv_iload_n hx hb dX8_end_19 rfl (lv_at hl 1 rfl) ?_
      exact W.iret (v := p0) hx hb hr (fun t ht hW => ⟨⟨p0, (), rfl, by first | decide | (rw [if_pos (by (try simp only [fa_lt, fa_le, fa_eq, (by decide : (0 : Int32).toInt = 0)] at c_1 c_2 ⊢); omega)]; done) | (rw [if_neg (by (try simp only [fa_lt, fa_le, fa_eq, (by decide : (0 : Int32).toInt = 0)] at c_1 c_2 ⊢); omega)]; done) | (rw [if_neg (by (try simp only [fa_lt, fa_le, fa_eq, (by decide : (0 : Int32).toInt = 0)] at c_1 c_2 ⊢); omega), if_pos (by (try simp only [fa_lt, fa_le, fa_eq, (by decide : (0 : Int32).toInt = 0)] at c_1 c_2 ⊢); omega)]; done) | (rw [if_neg (by (try simp only [fa_lt, fa_le, fa_eq, (by decide : (0 : Int32).toInt = 0)] at c_1 c_2 ⊢); omega), if_neg (by (try simp only [fa_lt, fa_le, fa_eq, (by decide : (0 : Int32).toInt = 0)] at c_1 c_2 ⊢); omega)]; done), rfl⟩, hS.F ht⟩) hS.2.2 dX8_end_20
    · skip
      refine lv_iconst (v := (-1)) hx hb dX8_end_12 (by decide) ?_
      exact W.iret (v := (-1)) hx hb hr (fun t ht hW => ⟨⟨(-1), (), rfl, by first | decide | (rw [if_pos (by (try simp only [fa_lt, fa_le, fa_eq, (by decide : (0 : Int32).toInt = 0)] at c_1 c_2 ⊢); omega)]; done) | (rw [if_neg (by (try simp only [fa_lt, fa_le, fa_eq, (by decide : (0 : Int32).toInt = 0)] at c_1 c_2 ⊢); omega)]; done) | (rw [if_neg (by (try simp only [fa_lt, fa_le, fa_eq, (by decide : (0 : Int32).toInt = 0)] at c_1 c_2 ⊢); omega), if_pos (by (try simp only [fa_lt, fa_le, fa_eq, (by decide : (0 : Int32).toInt = 0)] at c_1 c_2 ⊢); omega)]; done) | (rw [if_neg (by (try simp only [fa_lt, fa_le, fa_eq, (by decide : (0 : Int32).toInt = 0)] at c_1 c_2 ⊢); omega), if_neg (by (try simp only [fa_lt, fa_le, fa_eq, (by decide : (0 : Int32).toInt = 0)] at c_1 c_2 ⊢); omega)]; done), rfl⟩, hS.F ht⟩) hS.2.2 dX8_end_13
def v_X5_put : List Cond := Cond.code yX5_put cX5_put 5 none :: ([Cond.fieldLink RX5 25 "MayRings$Reader" "count" "I", Cond.fieldLink RX5 15 "MayRings$Reader" "kinds" "[I", Cond.fieldLink RX5 19 "MayRings$Reader" "places" "[I", Cond.fieldLink RX5 22 "MayRings$Reader" "values" "[J"] ++ (wsX50 ++ ([])))
theorem k_X5_put : GoodIn lw_tbl v_X5_put := gd_c (List.mem_of_getElem? (i := 609) (by decide +kernel)) rfl (goodIn_app (gd_c (List.mem_of_getElem? (i := 311) (by decide +kernel)) rfl (gd_c (List.mem_of_getElem? (i := 308) (by decide +kernel)) rfl (gd_c (List.mem_of_getElem? (i := 309) (by decide +kernel)) rfl (gd_c (List.mem_of_getElem? (i := 310) (by decide +kernel)) rfl (gd_nil))))) (goodIn_app kfX5 (gd_nil)))
set_option maxHeartbeats 600000 in
set_option maxRecDepth 100000 in
theorem c_X5_put (l : Launch) (dC : Nat → ClassId) (dI : Nat → Nat → Nat) (cB cI cJ cZ cP : ClassId) (h0 : Nat) (h1 : Nat) (h2 : Nat) (h3 : Nat) (h4 : Nat) (h5 : Nat) (sz : Nat) : Met l yX5_put v_X5_put ({ frames := 0, cells := 0, slots := 0, locals := 0 }) (va_Pc [.ref h0, .int 28, .int 0, .long 0] (fun U => U.heap.size = sz ∧ va_P (dC, dI) vwCl [(h0, .inr (5, [.ref h1, .ref h2, .ref h3, .ref h4, .int 0, .int 0, .ref h5, .int 0, .int 0, .int 0, .int 0, .int (-1)])), (h2, .inl (cI, 1601, .inl (fun _ => 0))), (h3, .inl (cI, 1601, .inl (fun _ => 0))), (h4, .inl (cJ, 1601, .inr (.inl (fun _ => 0))))] U.heap ∧ va_K (dC, dI) vwCl (ty5 cB cI cJ cZ cP) U ∧ va_D (fun _ => True) [(h0, .inr (5, [.ref h1, .ref h2, .ref h3, .ref h4, .int 0, .int 0, .ref h5, .int 0, .int 0, .int 0, .int 0, .int (-1)])), (h2, .inl (cI, 1601, .inl (fun _ => 0))), (h3, .inl (cI, 1601, .inl (fun _ => 0))), (h4, .inl (cJ, 1601, .inr (.inl (fun _ => 0))))])) (va_Qv (fun _ : Unit => True) (fun _ t => va_P (dC, dI) vwCl [(h0, .inr (5, [.ref h1, .ref h2, .ref h3, .ref h4, .int 1, .int 0, .ref h5, .int 0, .int 0, .int 0, .int 0, .int (-1)])), (h2, .inl (cI, 1601, .inl (upd (fun _ => 0) (0 : Int32).toNatClampNeg 28))), (h3, .inl (cI, 1601, .inl (upd (fun _ => 0) (0 : Int32).toNatClampNeg 0))), (h4, .inl (cJ, 1601, .inr (.inl (vp_updL (fun _ => 0) (0 : Int32).toNatClampNeg 0))))] t.heap ∧ va_D (va_A [(h0, .inr (5, [.ref h1, .ref h2, .ref h3, .ref h4, .int 0, .int 0, .ref h5, .int 0, .int 0, .int 0, .int 0, .int (-1)])), (h2, .inl (cI, 1601, .inl (fun _ => 0))), (h3, .inl (cI, 1601, .inl (fun _ => 0))), (h4, .inl (cJ, 1601, .inr (.inl (fun _ => 0))))] sz) [(h0, .inr (5, [.ref h1, .ref h2, .ref h3, .ref h4, .int 1, .int 0, .ref h5, .int 0, .int 0, .int 0, .int 0, .int (-1)])), (h2, .inl (cI, 1601, .inl (upd (fun _ => 0) (0 : Int32).toNatClampNeg 28))), (h3, .inl (cI, 1601, .inl (upd (fun _ => 0) (0 : Int32).toNatClampNeg 0))), (h4, .inl (cJ, 1601, .inr (.inl (vp_updL (fun _ => 0) (0 : Int32).toNatClampNeg 0))))]) (va_A [(h0, .inr (5, [.ref h1, .ref h2, .ref h3, .ref h4, .int 0, .int 0, .ref h5, .int 0, .int 0, .int 0, .int 0, .int (-1)])), (h2, .inl (cI, 1601, .inl (fun _ => 0))), (h3, .inl (cI, 1601, .inl (fun _ => 0))), (h4, .inl (cJ, 1601, .inr (.inl (fun _ => 0))))] sz)) 0 0 (va_A [(h0, .inr (5, [.ref h1, .ref h2, .ref h3, .ref h4, .int 0, .int 0, .ref h5, .int 0, .int 0, .int 0, .int 0, .int (-1)])), (h2, .inl (cI, 1601, .inl (fun _ => 0))), (h3, .inl (cI, 1601, .inl (fun _ => 0))), (h4, .inl (cJ, 1601, .inr (.inl (fun _ => 0))))] sz) := by
  refine Met.ofW (cc := cX5_put) (maxL := 5) (ret := none) (by decide) rfl ?_
  intro p e s m args below meth c s₁ B hml hv
  obtain ⟨rfl, hsz, hP, hK, hD0⟩ := hv
  have hx := B.exec
  have hb := B.bytes
  have hr := B.returns
  have hts := atoms_spec (ws := v_X5_put) B.pre
  have hown : s.vm.findClass RX5 = some m.cls := findClass_of_methodNamed B.named
  have hlocks := B.notSynchronized
  have hinX5 : ∀ w ∈ wsX50, w ∈ v_X5_put := fun _ h => List.mem_cons_of_mem _ (List.mem_append_right _ (List.mem_append_left _ h))
  subst hsz
  have hD := hD0.self (sz := s.heap.size)
  generalize hAe : va_A [(h0, .inr (5, [.ref h1, .ref h2, .ref h3, .ref h4, .int 0, .int 0, .ref h5, .int 0, .int 0, .int 0, .int 0, .int (-1)])), (h2, .inl (cI, 1601, .inl (fun _ => 0))), (h3, .inl (cI, 1601, .inl (fun _ => 0))), (h4, .inl (cJ, 1601, .inr (.inl (fun _ => 0))))] s.heap.size = A at hD ⊢
  have hA : ∀ q : Nat, s.heap.size ≤ q → A q := fun q h => by rw [← hAe]; exact Or.inr h
  have hP : va_P (dC, dI) vwCl [(h0, .inr (5, [.ref h1, .ref h2, .ref h3, .ref h4, .int 0, .int 0, .ref h5, .int 0, .int 0, .int 0, .int 0, .int (-1)])), (h2, .inl (cI, 1601, .inl (fun _ => 0))), (h3, .inl (cI, 1601, .inl (fun _ => 0))), (h4, .inl (cJ, 1601, .inr (.inl (fun _ => 0))))] s.heap := hP
  have hl := lv_entry ([.ref h0, .int 28, .int 0, .long 0]) (n := 5) (Nat.le_of_ble_eq_true rfl)
  rw [lg_entry_eq]
  generalize (lg_sl ([.ref h0, .int 28, .int 0, .long 0]) ++ List.replicate (5 - (lg_sl ([.ref h0, .int 28, .int 0, .long 0])).length) Slot.unset).toArray = ls at hl ⊢
  have hl : lv_has ls 5 [(0, .ref h0), (1, .int 28), (2, .int 0), (3, .long 0)] := hl
  refine W_gen (A := A) hP (fun H locs hP hS => ?_)
  refine lv_aload_n hx hb dX5_put_0 rfl (lv_at hl 0 rfl) ?_
  refine va_get (D := (dC, dI)) (ci := 5) (v := .int 0) (C := RX5) (T := TX5) (N := 12) hx hb hts hinX5 hown hK hP 0 rfl rfl 4 (by decide) (hts (.fieldLink RX5 25 "MayRings$Reader" "count" "I") (List.mem_of_getElem? (i := 1) rfl)) (fun _ h9 => h9) rfl dX5_put_1 ?_
  refine lv_sipush (v := 1600) hx hb dX5_put_4 (by decide) ?_
  refine lv_icmp_gt (tgt := 50) hx hb dX5_put_7 (by decide) (fun cz => absurd cz (by decide)) (fun _ => ?_)
  refine lv_aload_n hx hb dX5_put_10 rfl (lv_at hl 0 rfl) ?_
  refine va_get (D := (dC, dI)) (ci := 5) (v := .ref h2) (C := RX5) (T := TX5) (N := 12) hx hb hts hinX5 hown hK hP 0 rfl rfl 1 (by decide) (hts (.fieldLink RX5 15 "MayRings$Reader" "kinds" "[I") (List.mem_of_getElem? (i := 2) rfl)) (fun _ h9 => h9) rfl dX5_put_11 ?_
  refine lv_aload_n hx hb dX5_put_14 rfl (lv_at hl 0 rfl) ?_
  refine va_get (D := (dC, dI)) (ci := 5) (v := .int 0) (C := RX5) (T := TX5) (N := 12) hx hb hts hinX5 hown hK hP 0 rfl rfl 4 (by decide) (hts (.fieldLink RX5 25 "MayRings$Reader" "count" "I") (List.mem_of_getElem? (i := 1) rfl)) (fun _ h9 => h9) rfl dX5_put_15 ?_
  refine lv_iload_n hx hb dX5_put_18 rfl (lv_at hl 1 rfl) ?_
  refine va_iast hx hb hK hP hD hS 1 1 rfl rfl (show ¬ (_ ∨ _) by decide) dX5_put_19 (fun H locs hP hD hS => ?_)
  have hP : va_P (dC, dI) vwCl [(h0, .inr (5, [.ref h1, .ref h2, .ref h3, .ref h4, .int 0, .int 0, .ref h5, .int 0, .int 0, .int 0, .int 0, .int (-1)])), (h2, .inl (cI, 1601, .inl (upd (fun _ => 0) (0 : Int32).toNatClampNeg 28))), (h3, .inl (cI, 1601, .inl (fun _ => 0))), (h4, .inl (cJ, 1601, .inr (.inl (fun _ => 0))))] H := hP
  have hD : va_D A [(h0, .inr (5, [.ref h1, .ref h2, .ref h3, .ref h4, .int 0, .int 0, .ref h5, .int 0, .int 0, .int 0, .int 0, .int (-1)])), (h2, .inl (cI, 1601, .inl (upd (fun _ => 0) (0 : Int32).toNatClampNeg 28))), (h3, .inl (cI, 1601, .inl (fun _ => 0))), (h4, .inl (cJ, 1601, .inr (.inl (fun _ => 0))))] := hD
  refine lv_aload_n hx hb dX5_put_20 rfl (lv_at hl 0 rfl) ?_
  refine va_get (D := (dC, dI)) (ci := 5) (v := .ref h3) (C := RX5) (T := TX5) (N := 12) hx hb hts hinX5 hown hK hP 0 rfl rfl 2 (by decide) (hts (.fieldLink RX5 19 "MayRings$Reader" "places" "[I") (List.mem_of_getElem? (i := 3) rfl)) (fun _ h9 => h9) rfl dX5_put_21 ?_
  refine lv_aload_n hx hb dX5_put_24 rfl (lv_at hl 0 rfl) ?_
  refine va_get (D := (dC, dI)) (ci := 5) (v := .int 0) (C := RX5) (T := TX5) (N := 12) hx hb hts hinX5 hown hK hP 0 rfl rfl 4 (by decide) (hts (.fieldLink RX5 25 "MayRings$Reader" "count" "I") (List.mem_of_getElem? (i := 1) rfl)) (fun _ h9 => h9) rfl dX5_put_25 ?_
  refine lv_iload_n hx hb dX5_put_28 rfl (lv_at hl 2 rfl) ?_
  refine va_iast hx hb hK hP hD hS 2 1 rfl rfl (show ¬ (_ ∨ _) by decide) dX5_put_29 (fun H locs hP hD hS => ?_)
  have hP : va_P (dC, dI) vwCl [(h0, .inr (5, [.ref h1, .ref h2, .ref h3, .ref h4, .int 0, .int 0, .ref h5, .int 0, .int 0, .int 0, .int 0, .int (-1)])), (h2, .inl (cI, 1601, .inl (upd (fun _ => 0) (0 : Int32).toNatClampNeg 28))), (h3, .inl (cI, 1601, .inl (upd (fun _ => 0) (0 : Int32).toNatClampNeg 0))), (h4, .inl (cJ, 1601, .inr (.inl (fun _ => 0))))] H := hP
  have hD : va_D A [(h0, .inr (5, [.ref h1, .ref h2, .ref h3, .ref h4, .int 0, .int 0, .ref h5, .int 0, .int 0, .int 0, .int 0, .int (-1)])), (h2, .inl (cI, 1601, .inl (upd (fun _ => 0) (0 : Int32).toNatClampNeg 28))), (h3, .inl (cI, 1601, .inl (upd (fun _ => 0) (0 : Int32).toNatClampNeg 0))), (h4, .inl (cJ, 1601, .inr (.inl (fun _ => 0))))] := hD
  refine lv_aload_n hx hb dX5_put_30 rfl (lv_at hl 0 rfl) ?_
  refine va_get (D := (dC, dI)) (ci := 5) (v := .ref h4) (C := RX5) (T := TX5) (N := 12) hx hb hts hinX5 hown hK hP 0 rfl rfl 3 (by decide) (hts (.fieldLink RX5 22 "MayRings$Reader" "values" "[J") (List.mem_of_getElem? (i := 4) rfl)) (fun _ h9 => h9) rfl dX5_put_31 ?_
  refine lv_aload_n hx hb dX5_put_34 rfl (lv_at hl 0 rfl) ?_
  refine va_get (D := (dC, dI)) (ci := 5) (v := .int 0) (C := RX5) (T := TX5) (N := 12) hx hb hts hinX5 hown hK hP 0 rfl rfl 4 (by decide) (hts (.fieldLink RX5 25 "MayRings$Reader" "count" "I") (List.mem_of_getElem? (i := 1) rfl)) (fun _ h9 => h9) rfl dX5_put_35 ?_
  refine lv_lload_n hx hb dX5_put_38 rfl (lv_at hl 3 rfl) ?_
  refine va_last hx hb hK hP hD hS 3 2 rfl rfl (show ¬ (_ ∨ _) by decide) dX5_put_39 (fun H locs hP hD hS => ?_)
  have hP : va_P (dC, dI) vwCl [(h0, .inr (5, [.ref h1, .ref h2, .ref h3, .ref h4, .int 0, .int 0, .ref h5, .int 0, .int 0, .int 0, .int 0, .int (-1)])), (h2, .inl (cI, 1601, .inl (upd (fun _ => 0) (0 : Int32).toNatClampNeg 28))), (h3, .inl (cI, 1601, .inl (upd (fun _ => 0) (0 : Int32).toNatClampNeg 0))), (h4, .inl (cJ, 1601, .inr (.inl (vp_updL (fun _ => 0) (0 : Int32).toNatClampNeg 0))))] H := hP
  have hD : va_D A [(h0, .inr (5, [.ref h1, .ref h2, .ref h3, .ref h4, .int 0, .int 0, .ref h5, .int 0, .int 0, .int 0, .int 0, .int (-1)])), (h2, .inl (cI, 1601, .inl (upd (fun _ => 0) (0 : Int32).toNatClampNeg 28))), (h3, .inl (cI, 1601, .inl (upd (fun _ => 0) (0 : Int32).toNatClampNeg 0))), (h4, .inl (cJ, 1601, .inr (.inl (vp_updL (fun _ => 0) (0 : Int32).toNatClampNeg 0))))] := hD
  refine lv_aload_n hx hb dX5_put_40 rfl (lv_at hl 0 rfl) ?_
  refine lv_dup hx hb dX5_put_41 rfl ?_
  refine va_get (D := (dC, dI)) (ci := 5) (v := .int 0) (C := RX5) (T := TX5) (N := 12) hx hb hts hinX5 hown hK hP 0 rfl rfl 4 (by decide) (hts (.fieldLink RX5 25 "MayRings$Reader" "count" "I") (List.mem_of_getElem? (i := 1) rfl)) (fun _ h9 => h9) rfl dX5_put_42 ?_
  refine lv_iconst (v := 1) hx hb dX5_put_45 (by decide) ?_
  refine lv_iadd hx hb dX5_put_46 ?_
  refine tp_v (.int 1) (congrArg Value.int (by decide)) ?_
  refine va_put (D := (dC, dI)) (ci := 5) (v := .int 1) (ty := .int) (C := RX5) (T := TX5) (N := 12) hx hb hts hinX5 tyX5 tyX5_ok nmX5 hown hK hP hD hS 0 rfl rfl 4 (by decide) (hts (.fieldLink RX5 25 "MayRings$Reader" "count" "I") (List.mem_of_getElem? (i := 1) rfl)) (fun _ h9 => h9) rfl (by decide +kernel) rfl rfl (Nat.le_of_ble_eq_true rfl) dX5_put_47 (fun H locs hP hD hS => ?_)
  have hP : va_P (dC, dI) vwCl [(h0, .inr (5, [.ref h1, .ref h2, .ref h3, .ref h4, .int 1, .int 0, .ref h5, .int 0, .int 0, .int 0, .int 0, .int (-1)])), (h2, .inl (cI, 1601, .inl (upd (fun _ => 0) (0 : Int32).toNatClampNeg 28))), (h3, .inl (cI, 1601, .inl (upd (fun _ => 0) (0 : Int32).toNatClampNeg 0))), (h4, .inl (cJ, 1601, .inr (.inl (vp_updL (fun _ => 0) (0 : Int32).toNatClampNeg 0))))] H := hP
  have hD : va_D A [(h0, .inr (5, [.ref h1, .ref h2, .ref h3, .ref h4, .int 1, .int 0, .ref h5, .int 0, .int 0, .int 0, .int 0, .int (-1)])), (h2, .inl (cI, 1601, .inl (upd (fun _ => 0) (0 : Int32).toNatClampNeg 28))), (h3, .inl (cI, 1601, .inl (upd (fun _ => 0) (0 : Int32).toNatClampNeg 0))), (h4, .inl (cJ, 1601, .inr (.inl (vp_updL (fun _ => 0) (0 : Int32).toNatClampNeg 0))))] := hD
  have hP9 := hP.sub (ws' := [(h0, .inr (5, [.ref h1, .ref h2, .ref h3, .ref h4, .int 1, .int 0, .ref h5, .int 0, .int 0, .int 0, .int 0, .int (-1)])), (h2, .inl (cI, 1601, .inl (upd (fun _ => 0) (0 : Int32).toNatClampNeg 28))), (h3, .inl (cI, 1601, .inl (upd (fun _ => 0) (0 : Int32).toNatClampNeg 0))), (h4, .inl (cJ, 1601, .inr (.inl (vp_updL (fun _ => 0) (0 : Int32).toNatClampNeg 0))))]) [0, 1, 2, 3] rfl
  have hD9 := hD.sub (ws' := [(h0, .inr (5, [.ref h1, .ref h2, .ref h3, .ref h4, .int 1, .int 0, .ref h5, .int 0, .int 0, .int 0, .int 0, .int (-1)])), (h2, .inl (cI, 1601, .inl (upd (fun _ => 0) (0 : Int32).toNatClampNeg 28))), (h3, .inl (cI, 1601, .inl (upd (fun _ => 0) (0 : Int32).toNatClampNeg 0))), (h4, .inl (cJ, 1601, .inr (.inl (vp_updL (fun _ => 0) (0 : Int32).toNatClampNeg 0))))]) [0, 1, 2, 3] (by decide) rfl
  exact W.vret hx hb hr (fun t ht hW => ⟨⟨(), rfl, trivial, ⟨by rw [ht]; exact hP9, hD9⟩⟩, hS.F ht⟩) hS.2.2 dX5_put_50
def v_X5_split : List Cond := Cond.code yX5_split cX5_split 5 none :: ([Cond.fieldLink RX5 25 "MayRings$Reader" "count" "I", Cond.methodLink RX5 91 yX5_put, Cond.instanceMethod yX5_put, Cond.selects RX5 yX5_put yX5_put, Cond.initialized RX5] ++ (wsX50 ++ (v_X5_put ++ ([]))))
theorem k_X5_split : GoodIn lw_tbl v_X5_split := gd_c (List.mem_of_getElem? (i := 594) (by decide +kernel)) rfl (goodIn_app (gd_c (List.mem_of_getElem? (i := 311) (by decide +kernel)) rfl (gd_c (List.mem_of_getElem? (i := 606) (by decide +kernel)) rfl (gd_c (List.mem_of_getElem? (i := 608) (by decide +kernel)) rfl (gd_c (List.mem_of_getElem? (i := 5) (by decide +kernel)) rfl (gd_c (List.mem_of_getElem? (i := 131) (by decide +kernel)) rfl (gd_nil)))))) (goodIn_app kfX5 (goodIn_app k_X5_put (gd_nil))))
set_option maxHeartbeats 600000 in
set_option maxRecDepth 100000 in
theorem c_X5_split (l : Launch) (dC : Nat → ClassId) (dI : Nat → Nat → Nat) (cB cI cJ cZ cP : ClassId) (h0 : Nat) (h1 : Nat) (h2 : Nat) (h3 : Nat) (h4 : Nat) (h5 : Nat) (h6 : Nat) (sz : Nat) : Met l yX5_split v_X5_split ({ frames := 1, cells := 0, slots := 0, locals := 24 }) (va_Pc [.ref h0, .ref h1, .int 0] (fun U => U.heap.size = sz ∧ va_P (dC, dI) vwCl [(h0, .inr (5, [.ref h2, .ref h3, .ref h4, .ref h5, .int 0, .int 0, .ref h6, .int 0, .int 0, .int 0, .int 0, .int (-1)])), (h3, .inl (cI, 1601, .inl (fun _ => 0))), (h4, .inl (cI, 1601, .inl (fun _ => 0))), (h5, .inl (cJ, 1601, .inr (.inl (fun _ => 0))))] U.heap ∧ va_K (dC, dI) vwCl (ty5 cB cI cJ cZ cP) U ∧ va_D (fun _ => True) [(h0, .inr (5, [.ref h2, .ref h3, .ref h4, .ref h5, .int 0, .int 0, .ref h6, .int 0, .int 0, .int 0, .int 0, .int (-1)])), (h3, .inl (cI, 1601, .inl (fun _ => 0))), (h4, .inl (cI, 1601, .inl (fun _ => 0))), (h5, .inl (cJ, 1601, .inr (.inl (fun _ => 0))))])) (va_Qv (fun _ : Unit => True) (fun _ t => va_P (dC, dI) vwCl [(h0, .inr (5, [.ref h2, .ref h3, .ref h4, .ref h5, .int 1, .int 0, .ref h6, .int 0, .int 0, .int 0, .int 0, .int (-1)])), (h3, .inl (cI, 1601, .inl (upd (fun _ => 0) (0 : Int32).toNatClampNeg 28))), (h4, .inl (cI, 1601, .inl (upd (fun _ => 0) (0 : Int32).toNatClampNeg 0))), (h5, .inl (cJ, 1601, .inr (.inl (vp_updL (fun _ => 0) (0 : Int32).toNatClampNeg 0))))] t.heap ∧ va_D (va_A [(h0, .inr (5, [.ref h2, .ref h3, .ref h4, .ref h5, .int 0, .int 0, .ref h6, .int 0, .int 0, .int 0, .int 0, .int (-1)])), (h3, .inl (cI, 1601, .inl (fun _ => 0))), (h4, .inl (cI, 1601, .inl (fun _ => 0))), (h5, .inl (cJ, 1601, .inr (.inl (fun _ => 0))))] sz) [(h0, .inr (5, [.ref h2, .ref h3, .ref h4, .ref h5, .int 1, .int 0, .ref h6, .int 0, .int 0, .int 0, .int 0, .int (-1)])), (h3, .inl (cI, 1601, .inl (upd (fun _ => 0) (0 : Int32).toNatClampNeg 28))), (h4, .inl (cI, 1601, .inl (upd (fun _ => 0) (0 : Int32).toNatClampNeg 0))), (h5, .inl (cJ, 1601, .inr (.inl (vp_updL (fun _ => 0) (0 : Int32).toNatClampNeg 0))))]) (va_A [(h0, .inr (5, [.ref h2, .ref h3, .ref h4, .ref h5, .int 0, .int 0, .ref h6, .int 0, .int 0, .int 0, .int 0, .int (-1)])), (h3, .inl (cI, 1601, .inl (fun _ => 0))), (h4, .inl (cI, 1601, .inl (fun _ => 0))), (h5, .inl (cJ, 1601, .inr (.inl (fun _ => 0))))] sz)) 0 0 (va_A [(h0, .inr (5, [.ref h2, .ref h3, .ref h4, .ref h5, .int 0, .int 0, .ref h6, .int 0, .int 0, .int 0, .int 0, .int (-1)])), (h3, .inl (cI, 1601, .inl (fun _ => 0))), (h4, .inl (cI, 1601, .inl (fun _ => 0))), (h5, .inl (cJ, 1601, .inr (.inl (fun _ => 0))))] sz) := by
  refine Met.ofW (cc := cX5_split) (maxL := 5) (ret := none) (by decide) rfl ?_
  intro p e s m args below meth c s₁ B hml hv
  obtain ⟨rfl, hsz, hP, hK, hD0⟩ := hv
  have hx := B.exec
  have hb := B.bytes
  have hr := B.returns
  have hts := atoms_spec (ws := v_X5_split) B.pre
  have hown : s.vm.findClass RX5 = some m.cls := findClass_of_methodNamed B.named
  have hlocks := B.notSynchronized
  have hinX5 : ∀ w ∈ wsX50, w ∈ v_X5_split := fun _ h => List.mem_cons_of_mem _ (List.mem_append_right _ (List.mem_append_left _ h))
  subst hsz
  have hD := hD0.self (sz := s.heap.size)
  generalize hAe : va_A [(h0, .inr (5, [.ref h2, .ref h3, .ref h4, .ref h5, .int 0, .int 0, .ref h6, .int 0, .int 0, .int 0, .int 0, .int (-1)])), (h3, .inl (cI, 1601, .inl (fun _ => 0))), (h4, .inl (cI, 1601, .inl (fun _ => 0))), (h5, .inl (cJ, 1601, .inr (.inl (fun _ => 0))))] s.heap.size = A at hD ⊢
  have hA : ∀ q : Nat, s.heap.size ≤ q → A q := fun q h => by rw [← hAe]; exact Or.inr h
  have hP : va_P (dC, dI) vwCl [(h0, .inr (5, [.ref h2, .ref h3, .ref h4, .ref h5, .int 0, .int 0, .ref h6, .int 0, .int 0, .int 0, .int 0, .int (-1)])), (h3, .inl (cI, 1601, .inl (fun _ => 0))), (h4, .inl (cI, 1601, .inl (fun _ => 0))), (h5, .inl (cJ, 1601, .inr (.inl (fun _ => 0))))] s.heap := hP
  have hl := lv_entry ([.ref h0, .ref h1, .int 0]) (n := 5) (Nat.le_of_ble_eq_true rfl)
  rw [lg_entry_eq]
  generalize (lg_sl ([.ref h0, .ref h1, .int 0]) ++ List.replicate (5 - (lg_sl ([.ref h0, .ref h1, .int 0])).length) Slot.unset).toArray = ls at hl ⊢
  have hl : lv_has ls 5 [(0, .ref h0), (1, .ref h1), (2, .int 0)] := hl
  refine W_gen (A := A) hP (fun H locs hP hS => ?_)
  refine lv_aload_n hx hb dX5_split_0 rfl (lv_at hl 0 rfl) ?_
  refine lv_iconst (v := 0) hx hb dX5_split_1 (by decide) ?_
  refine va_put (D := (dC, dI)) (ci := 5) (v := .int 0) (ty := .int) (C := RX5) (T := TX5) (N := 12) hx hb hts hinX5 tyX5 tyX5_ok nmX5 hown hK hP hD hS 0 rfl rfl 4 (by decide) (hts (.fieldLink RX5 25 "MayRings$Reader" "count" "I") (List.mem_of_getElem? (i := 1) rfl)) (fun _ h9 => h9) rfl (by decide +kernel) rfl rfl (Nat.le_of_ble_eq_true rfl) dX5_split_2 (fun H locs hP hD hS => ?_)
  have hP : va_P (dC, dI) vwCl [(h0, .inr (5, [.ref h2, .ref h3, .ref h4, .ref h5, .int 0, .int 0, .ref h6, .int 0, .int 0, .int 0, .int 0, .int (-1)])), (h3, .inl (cI, 1601, .inl (fun _ => 0))), (h4, .inl (cI, 1601, .inl (fun _ => 0))), (h5, .inl (cJ, 1601, .inr (.inl (fun _ => 0))))] H := hP
  have hD : va_D A [(h0, .inr (5, [.ref h2, .ref h3, .ref h4, .ref h5, .int 0, .int 0, .ref h6, .int 0, .int 0, .int 0, .int 0, .int (-1)])), (h3, .inl (cI, 1601, .inl (fun _ => 0))), (h4, .inl (cI, 1601, .inl (fun _ => 0))), (h5, .inl (cJ, 1601, .inr (.inl (fun _ => 0))))] := hD
  refine lv_iconst (v := 0) hx hb dX5_split_5 (by decide) ?_
  refine lv_istore_n (lv' := [(3, .int 0), (0, .ref h0), (1, .ref h1), (2, .int 0)]) hx hb dX5_split_6 rfl hl (by decide) rfl (fun ls hl => ?_)
  refine lv_iconst (v := 0) hx hb dX5_split_7 (by decide) ?_
  refine lv_istore (lv' := [(4, .int 0), (3, .int 0), (0, .ref h0), (1, .ref h1), (2, .int 0)]) hx hb dX5_split_8 hl (by decide) rfl (fun ls hl => ?_)
  refine lv_iload hx hb dX5_split_10 (lv_at hl 0 rfl) ?_
  refine lv_iload_n hx hb dX5_split_12 rfl (lv_at hl 4 rfl) ?_
  refine lv_icmp_ge (tgt := 35) hx hb dX5_split_13 (by decide) (fun _ => ?_) (fun cz => absurd (by decide) cz)
  refine lv_aload_n hx hb dX5_split_35 rfl (lv_at hl 2 rfl) ?_
  refine va_get (D := (dC, dI)) (ci := 5) (v := .int 0) (C := RX5) (T := TX5) (N := 12) hx hb hts hinX5 hown hK hP 0 rfl rfl 4 (by decide) (hts (.fieldLink RX5 25 "MayRings$Reader" "count" "I") (List.mem_of_getElem? (i := 1) rfl)) (fun _ h9 => h9) rfl dX5_split_36 ?_
  refine lv_if_eq (tgt := 58) hx hb dX5_split_39 (by decide) (fun _ => ?_) (fun cz => absurd (by decide) cz)
  refine lv_aload_n hx hb dX5_split_58 rfl (lv_at hl 2 rfl) ?_
  refine lv_bipush (v := 28) hx hb dX5_split_59 (by decide) ?_
  refine lv_iload_n hx hb dX5_split_61 rfl (lv_at hl 4 rfl) ?_
  refine lv_lconst (v := 0) hx hb dX5_split_62 (by decide) ?_
  have hPc := hP.sub (ws' := [(h0, .inr (5, [.ref h2, .ref h3, .ref h4, .ref h5, .int 0, .int 0, .ref h6, .int 0, .int 0, .int 0, .int 0, .int (-1)])), (h3, .inl (cI, 1601, .inl (fun _ => 0))), (h4, .inl (cI, 1601, .inl (fun _ => 0))), (h5, .inl (cJ, 1601, .inr (.inl (fun _ => 0))))]) [0, 1, 2, 3] rfl
  have hDc := hD.sub (ws' := [(h0, .inr (5, [.ref h2, .ref h3, .ref h4, .ref h5, .int 0, .int 0, .ref h6, .int 0, .int 0, .int 0, .int 0, .int (-1)])), (h3, .inl (cI, 1601, .inl (fun _ => 0))), (h4, .inl (cI, 1601, .inl (fun _ => 0))), (h5, .inl (cJ, 1601, .inr (.inl (fun _ => 0))))]) [0, 1, 2, 3] (by decide) rfl
  have hFc := va_free (wc := [(h0, .inr (5, [.ref h2, .ref h3, .ref h4, .ref h5, .int 0, .int 0, .ref h6, .int 0, .int 0, .int 0, .int 0, .int (-1)])), (h3, .inl (cI, 1601, .inl (fun _ => 0))), (h4, .inl (cI, 1601, .inl (fun _ => 0))), (h5, .inl (cJ, 1601, .inr (.inl (fun _ => 0))))]) hD hS hA [0, 1, 2, 3] rfl
  refine va_callv (va_runV (As := [.int 28, .int 0, .long 0]) (rest := []) ⟨hx, hb, hml, hown, hts⟩ (c_X5_put l dC dI cB cI cJ cZ cP h0 h2 h3 h4 h5 h6 H.size) (cwV 3 hts (gd_V (List.mem_of_getElem? (i := 2) rfl) (List.mem_of_getElem? (i := 3) rfl) (List.mem_of_getElem? (i := 4) rfl) (List.mem_of_getElem? (i := 5) rfl) (gd_mono k_X5_put (fun _ h => List.mem_cons_of_mem _ (List.mem_append_right _ (List.mem_append_right _ (List.mem_append_left _ h)))))) rfl rfl rfl (by decide +kernel) ⟨Nat.le_of_ble_eq_true rfl, Nat.le_of_ble_eq_true rfl⟩) ⟨fun a U g mk q => by obtain ⟨q0, q1, qP, qK, qD⟩ := q; exact ⟨q0, q1, qP, va_K.moved (u := U) (U := U.calling g mk a) (Vm.Alike.refl U.vm) qK, qD⟩, va_recv hK hPc (ci := 5) (q0 := 0) rfl rfl, fun U hU hW => ⟨rfl, by rw [hU], by rw [hU]; exact hPc, va_K.moved hW.alike hK, hDc.weaken (fun _ _ _ _ => trivial)⟩⟩ rfl rfl hl.1 rfl (lv_room (Nat.le_of_ble_eq_true rfl)) dX5_split_63 ⟨Nat.le_of_ble_eq_true rfl, Nat.le_of_ble_eq_true rfl⟩) hS (fun q _ h => hFc q h) hFc (fun u t H1 locs ht hvm hw hB hz1 hk1 hS => ?_)
  obtain ⟨hP1, hD1⟩ := hB
  rw [ht] at hP1
  obtain ⟨hP, hD⟩ := va_join (wr := []) (w1 := [(h0, .inr (5, [.ref h2, .ref h3, .ref h4, .ref h5, .int 1, .int 0, .ref h6, .int 0, .int 0, .int 0, .int 0, .int (-1)])), (h3, .inl (cI, 1601, .inl (upd (fun _ => 0) (0 : Int32).toNatClampNeg 28))), (h4, .inl (cI, 1601, .inl (upd (fun _ => 0) (0 : Int32).toNatClampNeg 0))), (h5, .inl (cJ, 1601, .inr (.inl (vp_updL (fun _ => 0) (0 : Int32).toNatClampNeg 0))))]) hP hD [0, 1, 2, 3] [] rfl rfl (by decide) (by decide) hk1 hFc hP1 hD1
  generalize H1 = H at hP hS ⊢
  have hP : va_P (dC, dI) vwCl [(h0, .inr (5, [.ref h2, .ref h3, .ref h4, .ref h5, .int 1, .int 0, .ref h6, .int 0, .int 0, .int 0, .int 0, .int (-1)])), (h3, .inl (cI, 1601, .inl (upd (fun _ => 0) (0 : Int32).toNatClampNeg 28))), (h4, .inl (cI, 1601, .inl (upd (fun _ => 0) (0 : Int32).toNatClampNeg 0))), (h5, .inl (cJ, 1601, .inr (.inl (vp_updL (fun _ => 0) (0 : Int32).toNatClampNeg 0))))] H := hP
  have hD : va_D A [(h0, .inr (5, [.ref h2, .ref h3, .ref h4, .ref h5, .int 1, .int 0, .ref h6, .int 0, .int 0, .int 0, .int 0, .int (-1)])), (h3, .inl (cI, 1601, .inl (upd (fun _ => 0) (0 : Int32).toNatClampNeg 28))), (h4, .inl (cI, 1601, .inl (upd (fun _ => 0) (0 : Int32).toNatClampNeg 0))), (h5, .inl (cJ, 1601, .inr (.inl (vp_updL (fun _ => 0) (0 : Int32).toNatClampNeg 0))))] := hD
  have hP9 := hP.sub (ws' := [(h0, .inr (5, [.ref h2, .ref h3, .ref h4, .ref h5, .int 1, .int 0, .ref h6, .int 0, .int 0, .int 0, .int 0, .int (-1)])), (h3, .inl (cI, 1601, .inl (upd (fun _ => 0) (0 : Int32).toNatClampNeg 28))), (h4, .inl (cI, 1601, .inl (upd (fun _ => 0) (0 : Int32).toNatClampNeg 0))), (h5, .inl (cJ, 1601, .inr (.inl (vp_updL (fun _ => 0) (0 : Int32).toNatClampNeg 0))))]) [0, 1, 2, 3] rfl
  have hD9 := hD.sub (ws' := [(h0, .inr (5, [.ref h2, .ref h3, .ref h4, .ref h5, .int 1, .int 0, .ref h6, .int 0, .int 0, .int 0, .int 0, .int (-1)])), (h3, .inl (cI, 1601, .inl (upd (fun _ => 0) (0 : Int32).toNatClampNeg 28))), (h4, .inl (cI, 1601, .inl (upd (fun _ => 0) (0 : Int32).toNatClampNeg 0))), (h5, .inl (cJ, 1601, .inr (.inl (vp_updL (fun _ => 0) (0 : Int32).toNatClampNeg 0))))]) [0, 1, 2, 3] (by decide) rfl
  exact W.vret hx hb hr (fun t ht hW => ⟨⟨(), rfl, trivial, ⟨by rw [ht]; exact hP9, hD9⟩⟩, hS.F ht⟩) hS.2.2 dX5_split_66
def v_X1_open : List Cond := Cond.code yX1_open cX1_open 1 none :: ([Cond.fieldLink RX1 21 "MayRings$Law" "length" "I", Cond.fieldLink RX1 28 "MayRings$Law" "units" "I"] ++ (wsX10 ++ ([])))
theorem k_X1_open : GoodIn lw_tbl v_X1_open := gd_c (List.mem_of_getElem? (i := 690) (by decide +kernel)) rfl (goodIn_app (gd_c (List.mem_of_getElem? (i := 186) (by decide +kernel)) rfl (gd_c (List.mem_of_getElem? (i := 188) (by decide +kernel)) rfl (gd_nil))) (goodIn_app kfX1 (gd_nil)))
set_option maxHeartbeats 600000 in
set_option maxRecDepth 100000 in
theorem c_X1_open (l : Launch) (dC : Nat → ClassId) (dI : Nat → Nat → Nat) (cB cI cJ cZ cP : ClassId) (h0 : Nat) (h1 : Nat) (h2 : Nat) (h3 : Nat) (sz : Nat) : Met l yX1_open v_X1_open ({ frames := 0, cells := 0, slots := 0, locals := 0 }) (va_Pc [.ref h0] (fun U => U.heap.size = sz ∧ va_P (dC, dI) vwCl [(h0, .inr (1, [.ref h1, .ref h2, .ref h3, .int 3, .int 0, .int 0]))] U.heap ∧ va_K (dC, dI) vwCl (ty5 cB cI cJ cZ cP) U ∧ va_D (fun _ => True) [(h0, .inr (1, [.ref h1, .ref h2, .ref h3, .int 3, .int 0, .int 0]))])) (va_Qv (fun _ : Unit => True) (fun _ t => va_P (dC, dI) vwCl [(h0, .inr (1, [.ref h1, .ref h2, .ref h3, .int 0, .int 0, .int 0]))] t.heap ∧ va_D (va_A [(h0, .inr (1, [.ref h1, .ref h2, .ref h3, .int 3, .int 0, .int 0]))] sz) [(h0, .inr (1, [.ref h1, .ref h2, .ref h3, .int 0, .int 0, .int 0]))]) (va_A [(h0, .inr (1, [.ref h1, .ref h2, .ref h3, .int 3, .int 0, .int 0]))] sz)) 0 0 (va_A [(h0, .inr (1, [.ref h1, .ref h2, .ref h3, .int 3, .int 0, .int 0]))] sz) := by
  refine Met.ofW (cc := cX1_open) (maxL := 1) (ret := none) (by decide) rfl ?_
  intro p e s m args below meth c s₁ B hml hv
  obtain ⟨rfl, hsz, hP, hK, hD0⟩ := hv
  have hx := B.exec
  have hb := B.bytes
  have hr := B.returns
  have hts := atoms_spec (ws := v_X1_open) B.pre
  have hown : s.vm.findClass RX1 = some m.cls := findClass_of_methodNamed B.named
  have hlocks := B.notSynchronized
  have hinX1 : ∀ w ∈ wsX10, w ∈ v_X1_open := fun _ h => List.mem_cons_of_mem _ (List.mem_append_right _ (List.mem_append_left _ h))
  subst hsz
  have hD := hD0.self (sz := s.heap.size)
  generalize hAe : va_A [(h0, .inr (1, [.ref h1, .ref h2, .ref h3, .int 3, .int 0, .int 0]))] s.heap.size = A at hD ⊢
  have hA : ∀ q : Nat, s.heap.size ≤ q → A q := fun q h => by rw [← hAe]; exact Or.inr h
  have hP : va_P (dC, dI) vwCl [(h0, .inr (1, [.ref h1, .ref h2, .ref h3, .int 3, .int 0, .int 0]))] s.heap := hP
  have hl := lv_entry ([.ref h0]) (n := 1) (Nat.le_of_ble_eq_true rfl)
  rw [lg_entry_eq]
  generalize (lg_sl ([.ref h0]) ++ List.replicate (1 - (lg_sl ([.ref h0])).length) Slot.unset).toArray = ls at hl ⊢
  have hl : lv_has ls 1 [(0, .ref h0)] := hl
  refine W_gen (A := A) hP (fun H locs hP hS => ?_)
  refine lv_aload_n hx hb dX1_open_0 rfl (lv_at hl 0 rfl) ?_
  refine lv_iconst (v := 0) hx hb dX1_open_1 (by decide) ?_
  refine va_put (D := (dC, dI)) (ci := 1) (v := .int 0) (ty := .int) (C := RX1) (T := TX1) (N := 6) hx hb hts hinX1 tyX1 tyX1_ok nmX1 hown hK hP hD hS 0 rfl rfl 3 (by decide) (hts (.fieldLink RX1 21 "MayRings$Law" "length" "I") (List.mem_of_getElem? (i := 1) rfl)) (fun _ h9 => h9) rfl (by decide +kernel) rfl rfl (Nat.le_of_ble_eq_true rfl) dX1_open_2 (fun H locs hP hD hS => ?_)
  have hP : va_P (dC, dI) vwCl [(h0, .inr (1, [.ref h1, .ref h2, .ref h3, .int 0, .int 0, .int 0]))] H := hP
  have hD : va_D A [(h0, .inr (1, [.ref h1, .ref h2, .ref h3, .int 0, .int 0, .int 0]))] := hD
  refine lv_aload_n hx hb dX1_open_5 rfl (lv_at hl 0 rfl) ?_
  refine lv_iconst (v := 0) hx hb dX1_open_6 (by decide) ?_
  refine va_put (D := (dC, dI)) (ci := 1) (v := .int 0) (ty := .int) (C := RX1) (T := TX1) (N := 6) hx hb hts hinX1 tyX1 tyX1_ok nmX1 hown hK hP hD hS 0 rfl rfl 5 (by decide) (hts (.fieldLink RX1 28 "MayRings$Law" "units" "I") (List.mem_of_getElem? (i := 2) rfl)) (fun _ h9 => h9) rfl (by decide +kernel) rfl rfl (Nat.le_of_ble_eq_true rfl) dX1_open_7 (fun H locs hP hD hS => ?_)
  have hP : va_P (dC, dI) vwCl [(h0, .inr (1, [.ref h1, .ref h2, .ref h3, .int 0, .int 0, .int 0]))] H := hP
  have hD : va_D A [(h0, .inr (1, [.ref h1, .ref h2, .ref h3, .int 0, .int 0, .int 0]))] := hD
  have hP9 := hP.sub (ws' := [(h0, .inr (1, [.ref h1, .ref h2, .ref h3, .int 0, .int 0, .int 0]))]) [0] rfl
  have hD9 := hD.sub (ws' := [(h0, .inr (1, [.ref h1, .ref h2, .ref h3, .int 0, .int 0, .int 0]))]) [0] (by decide) rfl
  exact W.vret hx hb hr (fun t ht hW => ⟨⟨(), rfl, trivial, ⟨by rw [ht]; exact hP9, hD9⟩⟩, hS.F ht⟩) hS.2.2 dX1_open_10
def v_X1_put_4 : List Cond := Cond.code yX1_put cX1_put 2 none :: ([Cond.fieldLink RX1 21 "MayRings$Law" "length" "I", Cond.fieldLink RX1 11 "MayRings$Law" "codes" "[I"] ++ (wsX10 ++ ([])))
theorem k_X1_put_4 : GoodIn lw_tbl v_X1_put_4 := gd_c (List.mem_of_getElem? (i := 182) (by decide +kernel)) rfl (goodIn_app (gd_c (List.mem_of_getElem? (i := 186) (by decide +kernel)) rfl (gd_c (List.mem_of_getElem? (i := 183) (by decide +kernel)) rfl (gd_nil))) (goodIn_app kfX1 (gd_nil)))
set_option maxHeartbeats 600000 in
set_option maxRecDepth 100000 in
theorem c_X1_put_4 (l : Launch) (dC : Nat → ClassId) (dI : Nat → Nat → Nat) (cB cI cJ cZ cP : ClassId) (h0 : Nat) (h1 : Nat) (h2 : Nat) (h3 : Nat) (sz : Nat) : Met l yX1_put v_X1_put_4 ({ frames := 0, cells := 0, slots := 0, locals := 0 }) (va_Pc [.ref h0, .int (-14)] (fun U => U.heap.size = sz ∧ va_P (dC, dI) vwCl [(h1, .inl (cI, 360, .inl (upd (upd (upd (fun _ => 0) (0 : Int32).toNatClampNeg (-14)) (1 : Int32).toNatClampNeg 99) (2 : Int32).toNatClampNeg (-23)))), (h0, .inr (1, [.ref h1, .ref h2, .ref h3, .int 0, .int 0, .int 0]))] U.heap ∧ va_K (dC, dI) vwCl (ty5 cB cI cJ cZ cP) U ∧ va_D (fun _ => True) [(h1, .inl (cI, 360, .inl (upd (upd (upd (fun _ => 0) (0 : Int32).toNatClampNeg (-14)) (1 : Int32).toNatClampNeg 99) (2 : Int32).toNatClampNeg (-23)))), (h0, .inr (1, [.ref h1, .ref h2, .ref h3, .int 0, .int 0, .int 0]))])) (va_Qv (fun _ : Unit => True) (fun _ t => va_P (dC, dI) vwCl [(h1, .inl (cI, 360, .inl (upd (upd (upd (upd (fun _ => 0) (0 : Int32).toNatClampNeg (-14)) (1 : Int32).toNatClampNeg 99) (2 : Int32).toNatClampNeg (-23)) (0 : Int32).toNatClampNeg (-14)))), (h0, .inr (1, [.ref h1, .ref h2, .ref h3, .int 1, .int 0, .int 0]))] t.heap ∧ va_D (va_A [(h1, .inl (cI, 360, .inl (upd (upd (upd (fun _ => 0) (0 : Int32).toNatClampNeg (-14)) (1 : Int32).toNatClampNeg 99) (2 : Int32).toNatClampNeg (-23)))), (h0, .inr (1, [.ref h1, .ref h2, .ref h3, .int 0, .int 0, .int 0]))] sz) [(h1, .inl (cI, 360, .inl (upd (upd (upd (upd (fun _ => 0) (0 : Int32).toNatClampNeg (-14)) (1 : Int32).toNatClampNeg 99) (2 : Int32).toNatClampNeg (-23)) (0 : Int32).toNatClampNeg (-14)))), (h0, .inr (1, [.ref h1, .ref h2, .ref h3, .int 1, .int 0, .int 0]))]) (va_A [(h1, .inl (cI, 360, .inl (upd (upd (upd (fun _ => 0) (0 : Int32).toNatClampNeg (-14)) (1 : Int32).toNatClampNeg 99) (2 : Int32).toNatClampNeg (-23)))), (h0, .inr (1, [.ref h1, .ref h2, .ref h3, .int 0, .int 0, .int 0]))] sz)) 0 0 (va_A [(h1, .inl (cI, 360, .inl (upd (upd (upd (fun _ => 0) (0 : Int32).toNatClampNeg (-14)) (1 : Int32).toNatClampNeg 99) (2 : Int32).toNatClampNeg (-23)))), (h0, .inr (1, [.ref h1, .ref h2, .ref h3, .int 0, .int 0, .int 0]))] sz) := by
  refine Met.ofW (cc := cX1_put) (maxL := 2) (ret := none) (by decide) rfl ?_
  intro p e s m args below meth c s₁ B hml hv
  obtain ⟨rfl, hsz, hP, hK, hD0⟩ := hv
  have hx := B.exec
  have hb := B.bytes
  have hr := B.returns
  have hts := atoms_spec (ws := v_X1_put_4) B.pre
  have hown : s.vm.findClass RX1 = some m.cls := findClass_of_methodNamed B.named
  have hlocks := B.notSynchronized
  have hinX1 : ∀ w ∈ wsX10, w ∈ v_X1_put_4 := fun _ h => List.mem_cons_of_mem _ (List.mem_append_right _ (List.mem_append_left _ h))
  subst hsz
  have hD := hD0.self (sz := s.heap.size)
  generalize hAe : va_A [(h1, .inl (cI, 360, .inl (upd (upd (upd (fun _ => 0) (0 : Int32).toNatClampNeg (-14)) (1 : Int32).toNatClampNeg 99) (2 : Int32).toNatClampNeg (-23)))), (h0, .inr (1, [.ref h1, .ref h2, .ref h3, .int 0, .int 0, .int 0]))] s.heap.size = A at hD ⊢
  have hA : ∀ q : Nat, s.heap.size ≤ q → A q := fun q h => by rw [← hAe]; exact Or.inr h
  have hP : va_P (dC, dI) vwCl [(h1, .inl (cI, 360, .inl (upd (upd (upd (fun _ => 0) (0 : Int32).toNatClampNeg (-14)) (1 : Int32).toNatClampNeg 99) (2 : Int32).toNatClampNeg (-23)))), (h0, .inr (1, [.ref h1, .ref h2, .ref h3, .int 0, .int 0, .int 0]))] s.heap := hP
  have hl := lv_entry ([.ref h0, .int (-14)]) (n := 2) (Nat.le_of_ble_eq_true rfl)
  rw [lg_entry_eq]
  generalize (lg_sl ([.ref h0, .int (-14)]) ++ List.replicate (2 - (lg_sl ([.ref h0, .int (-14)])).length) Slot.unset).toArray = ls at hl ⊢
  have hl : lv_has ls 2 [(0, .ref h0), (1, .int (-14))] := hl
  refine W_gen (A := A) hP (fun H locs hP hS => ?_)
  refine lv_aload_n hx hb dX1_put_0 rfl (lv_at hl 0 rfl) ?_
  refine va_get (D := (dC, dI)) (ci := 1) (v := .int 0) (C := RX1) (T := TX1) (N := 6) hx hb hts hinX1 hown hK hP 1 rfl rfl 3 (by decide) (hts (.fieldLink RX1 21 "MayRings$Law" "length" "I") (List.mem_of_getElem? (i := 1) rfl)) (fun _ h9 => h9) rfl dX1_put_1 ?_
  refine lv_sipush (v := 360) hx hb dX1_put_4 (by decide) ?_
  refine lv_icmp_ge (tgt := 30) hx hb dX1_put_7 (by decide) (fun cz => absurd cz (by decide)) (fun _ => ?_)
  refine lv_aload_n hx hb dX1_put_10 rfl (lv_at hl 0 rfl) ?_
  refine va_get (D := (dC, dI)) (ci := 1) (v := .ref h1) (C := RX1) (T := TX1) (N := 6) hx hb hts hinX1 hown hK hP 1 rfl rfl 0 (by decide) (hts (.fieldLink RX1 11 "MayRings$Law" "codes" "[I") (List.mem_of_getElem? (i := 2) rfl)) (fun _ h9 => h9) rfl dX1_put_11 ?_
  refine lv_aload_n hx hb dX1_put_14 rfl (lv_at hl 0 rfl) ?_
  refine va_get (D := (dC, dI)) (ci := 1) (v := .int 0) (C := RX1) (T := TX1) (N := 6) hx hb hts hinX1 hown hK hP 1 rfl rfl 3 (by decide) (hts (.fieldLink RX1 21 "MayRings$Law" "length" "I") (List.mem_of_getElem? (i := 1) rfl)) (fun _ h9 => h9) rfl dX1_put_15 ?_
  refine lv_iload_n hx hb dX1_put_18 rfl (lv_at hl 1 rfl) ?_
  refine va_iast hx hb hK hP hD hS 0 1 rfl rfl (show ¬ (_ ∨ _) by decide) dX1_put_19 (fun H locs hP hD hS => ?_)
  have hP : va_P (dC, dI) vwCl [(h1, .inl (cI, 360, .inl (upd (upd (upd (upd (fun _ => 0) (0 : Int32).toNatClampNeg (-14)) (1 : Int32).toNatClampNeg 99) (2 : Int32).toNatClampNeg (-23)) (0 : Int32).toNatClampNeg (-14)))), (h0, .inr (1, [.ref h1, .ref h2, .ref h3, .int 0, .int 0, .int 0]))] H := hP
  have hD : va_D A [(h1, .inl (cI, 360, .inl (upd (upd (upd (upd (fun _ => 0) (0 : Int32).toNatClampNeg (-14)) (1 : Int32).toNatClampNeg 99) (2 : Int32).toNatClampNeg (-23)) (0 : Int32).toNatClampNeg (-14)))), (h0, .inr (1, [.ref h1, .ref h2, .ref h3, .int 0, .int 0, .int 0]))] := hD
  refine lv_aload_n hx hb dX1_put_20 rfl (lv_at hl 0 rfl) ?_
  refine lv_dup hx hb dX1_put_21 rfl ?_
  refine va_get (D := (dC, dI)) (ci := 1) (v := .int 0) (C := RX1) (T := TX1) (N := 6) hx hb hts hinX1 hown hK hP 1 rfl rfl 3 (by decide) (hts (.fieldLink RX1 21 "MayRings$Law" "length" "I") (List.mem_of_getElem? (i := 1) rfl)) (fun _ h9 => h9) rfl dX1_put_22 ?_
  refine lv_iconst (v := 1) hx hb dX1_put_25 (by decide) ?_
  refine lv_iadd hx hb dX1_put_26 ?_
  refine tp_v (.int 1) (congrArg Value.int (by decide)) ?_
  refine va_put (D := (dC, dI)) (ci := 1) (v := .int 1) (ty := .int) (C := RX1) (T := TX1) (N := 6) hx hb hts hinX1 tyX1 tyX1_ok nmX1 hown hK hP hD hS 1 rfl rfl 3 (by decide) (hts (.fieldLink RX1 21 "MayRings$Law" "length" "I") (List.mem_of_getElem? (i := 1) rfl)) (fun _ h9 => h9) rfl (by decide +kernel) rfl rfl (Nat.le_of_ble_eq_true rfl) dX1_put_27 (fun H locs hP hD hS => ?_)
  have hP : va_P (dC, dI) vwCl [(h1, .inl (cI, 360, .inl (upd (upd (upd (upd (fun _ => 0) (0 : Int32).toNatClampNeg (-14)) (1 : Int32).toNatClampNeg 99) (2 : Int32).toNatClampNeg (-23)) (0 : Int32).toNatClampNeg (-14)))), (h0, .inr (1, [.ref h1, .ref h2, .ref h3, .int 1, .int 0, .int 0]))] H := hP
  have hD : va_D A [(h1, .inl (cI, 360, .inl (upd (upd (upd (upd (fun _ => 0) (0 : Int32).toNatClampNeg (-14)) (1 : Int32).toNatClampNeg 99) (2 : Int32).toNatClampNeg (-23)) (0 : Int32).toNatClampNeg (-14)))), (h0, .inr (1, [.ref h1, .ref h2, .ref h3, .int 1, .int 0, .int 0]))] := hD
  have hP9 := hP.sub (ws' := [(h1, .inl (cI, 360, .inl (upd (upd (upd (upd (fun _ => 0) (0 : Int32).toNatClampNeg (-14)) (1 : Int32).toNatClampNeg 99) (2 : Int32).toNatClampNeg (-23)) (0 : Int32).toNatClampNeg (-14)))), (h0, .inr (1, [.ref h1, .ref h2, .ref h3, .int 1, .int 0, .int 0]))]) [0, 1] rfl
  have hD9 := hD.sub (ws' := [(h1, .inl (cI, 360, .inl (upd (upd (upd (upd (fun _ => 0) (0 : Int32).toNatClampNeg (-14)) (1 : Int32).toNatClampNeg 99) (2 : Int32).toNatClampNeg (-23)) (0 : Int32).toNatClampNeg (-14)))), (h0, .inr (1, [.ref h1, .ref h2, .ref h3, .int 1, .int 0, .int 0]))]) [0, 1] (by decide) rfl
  exact W.vret hx hb hr (fun t ht hW => ⟨⟨(), rfl, trivial, ⟨by rw [ht]; exact hP9, hD9⟩⟩, hS.F ht⟩) hS.2.2 dX1_put_30
def v_X1_put_5 : List Cond := Cond.code yX1_put cX1_put 2 none :: ([Cond.fieldLink RX1 21 "MayRings$Law" "length" "I", Cond.fieldLink RX1 11 "MayRings$Law" "codes" "[I"] ++ (wsX10 ++ ([])))
theorem k_X1_put_5 : GoodIn lw_tbl v_X1_put_5 := gd_c (List.mem_of_getElem? (i := 182) (by decide +kernel)) rfl (goodIn_app (gd_c (List.mem_of_getElem? (i := 186) (by decide +kernel)) rfl (gd_c (List.mem_of_getElem? (i := 183) (by decide +kernel)) rfl (gd_nil))) (goodIn_app kfX1 (gd_nil)))
set_option maxHeartbeats 600000 in
set_option maxRecDepth 100000 in
theorem c_X1_put_5 (l : Launch) (dC : Nat → ClassId) (dI : Nat → Nat → Nat) (cB cI cJ cZ cP : ClassId) (h0 : Nat) (h1 : Nat) (h2 : Nat) (h3 : Nat) (sz : Nat) : Met l yX1_put v_X1_put_5 ({ frames := 0, cells := 0, slots := 0, locals := 0 }) (va_Pc [.ref h0, .int 99] (fun U => U.heap.size = sz ∧ va_P (dC, dI) vwCl [(h1, .inl (cI, 360, .inl (upd (upd (upd (upd (fun _ => 0) (0 : Int32).toNatClampNeg (-14)) (1 : Int32).toNatClampNeg 99) (2 : Int32).toNatClampNeg (-23)) (0 : Int32).toNatClampNeg (-14)))), (h0, .inr (1, [.ref h1, .ref h2, .ref h3, .int 1, .int 0, .int 0]))] U.heap ∧ va_K (dC, dI) vwCl (ty5 cB cI cJ cZ cP) U ∧ va_D (fun _ => True) [(h1, .inl (cI, 360, .inl (upd (upd (upd (upd (fun _ => 0) (0 : Int32).toNatClampNeg (-14)) (1 : Int32).toNatClampNeg 99) (2 : Int32).toNatClampNeg (-23)) (0 : Int32).toNatClampNeg (-14)))), (h0, .inr (1, [.ref h1, .ref h2, .ref h3, .int 1, .int 0, .int 0]))])) (va_Qv (fun _ : Unit => True) (fun _ t => va_P (dC, dI) vwCl [(h1, .inl (cI, 360, .inl (upd (upd (upd (upd (upd (fun _ => 0) (0 : Int32).toNatClampNeg (-14)) (1 : Int32).toNatClampNeg 99) (2 : Int32).toNatClampNeg (-23)) (0 : Int32).toNatClampNeg (-14)) (1 : Int32).toNatClampNeg 99))), (h0, .inr (1, [.ref h1, .ref h2, .ref h3, .int 2, .int 0, .int 0]))] t.heap ∧ va_D (va_A [(h1, .inl (cI, 360, .inl (upd (upd (upd (upd (fun _ => 0) (0 : Int32).toNatClampNeg (-14)) (1 : Int32).toNatClampNeg 99) (2 : Int32).toNatClampNeg (-23)) (0 : Int32).toNatClampNeg (-14)))), (h0, .inr (1, [.ref h1, .ref h2, .ref h3, .int 1, .int 0, .int 0]))] sz) [(h1, .inl (cI, 360, .inl (upd (upd (upd (upd (upd (fun _ => 0) (0 : Int32).toNatClampNeg (-14)) (1 : Int32).toNatClampNeg 99) (2 : Int32).toNatClampNeg (-23)) (0 : Int32).toNatClampNeg (-14)) (1 : Int32).toNatClampNeg 99))), (h0, .inr (1, [.ref h1, .ref h2, .ref h3, .int 2, .int 0, .int 0]))]) (va_A [(h1, .inl (cI, 360, .inl (upd (upd (upd (upd (fun _ => 0) (0 : Int32).toNatClampNeg (-14)) (1 : Int32).toNatClampNeg 99) (2 : Int32).toNatClampNeg (-23)) (0 : Int32).toNatClampNeg (-14)))), (h0, .inr (1, [.ref h1, .ref h2, .ref h3, .int 1, .int 0, .int 0]))] sz)) 0 0 (va_A [(h1, .inl (cI, 360, .inl (upd (upd (upd (upd (fun _ => 0) (0 : Int32).toNatClampNeg (-14)) (1 : Int32).toNatClampNeg 99) (2 : Int32).toNatClampNeg (-23)) (0 : Int32).toNatClampNeg (-14)))), (h0, .inr (1, [.ref h1, .ref h2, .ref h3, .int 1, .int 0, .int 0]))] sz) := by
  refine Met.ofW (cc := cX1_put) (maxL := 2) (ret := none) (by decide) rfl ?_
  intro p e s m args below meth c s₁ B hml hv
  obtain ⟨rfl, hsz, hP, hK, hD0⟩ := hv
  have hx := B.exec
  have hb := B.bytes
  have hr := B.returns
  have hts := atoms_spec (ws := v_X1_put_5) B.pre
  have hown : s.vm.findClass RX1 = some m.cls := findClass_of_methodNamed B.named
  have hlocks := B.notSynchronized
  have hinX1 : ∀ w ∈ wsX10, w ∈ v_X1_put_5 := fun _ h => List.mem_cons_of_mem _ (List.mem_append_right _ (List.mem_append_left _ h))
  subst hsz
  have hD := hD0.self (sz := s.heap.size)
  generalize hAe : va_A [(h1, .inl (cI, 360, .inl (upd (upd (upd (upd (fun _ => 0) (0 : Int32).toNatClampNeg (-14)) (1 : Int32).toNatClampNeg 99) (2 : Int32).toNatClampNeg (-23)) (0 : Int32).toNatClampNeg (-14)))), (h0, .inr (1, [.ref h1, .ref h2, .ref h3, .int 1, .int 0, .int 0]))] s.heap.size = A at hD ⊢
  have hA : ∀ q : Nat, s.heap.size ≤ q → A q := fun q h => by rw [← hAe]; exact Or.inr h
  have hP : va_P (dC, dI) vwCl [(h1, .inl (cI, 360, .inl (upd (upd (upd (upd (fun _ => 0) (0 : Int32).toNatClampNeg (-14)) (1 : Int32).toNatClampNeg 99) (2 : Int32).toNatClampNeg (-23)) (0 : Int32).toNatClampNeg (-14)))), (h0, .inr (1, [.ref h1, .ref h2, .ref h3, .int 1, .int 0, .int 0]))] s.heap := hP
  have hl := lv_entry ([.ref h0, .int 99]) (n := 2) (Nat.le_of_ble_eq_true rfl)
  rw [lg_entry_eq]
  generalize (lg_sl ([.ref h0, .int 99]) ++ List.replicate (2 - (lg_sl ([.ref h0, .int 99])).length) Slot.unset).toArray = ls at hl ⊢
  have hl : lv_has ls 2 [(0, .ref h0), (1, .int 99)] := hl
  refine W_gen (A := A) hP (fun H locs hP hS => ?_)
  refine lv_aload_n hx hb dX1_put_0 rfl (lv_at hl 0 rfl) ?_
  refine va_get (D := (dC, dI)) (ci := 1) (v := .int 1) (C := RX1) (T := TX1) (N := 6) hx hb hts hinX1 hown hK hP 1 rfl rfl 3 (by decide) (hts (.fieldLink RX1 21 "MayRings$Law" "length" "I") (List.mem_of_getElem? (i := 1) rfl)) (fun _ h9 => h9) rfl dX1_put_1 ?_
  refine lv_sipush (v := 360) hx hb dX1_put_4 (by decide) ?_
  refine lv_icmp_ge (tgt := 30) hx hb dX1_put_7 (by decide) (fun cz => absurd cz (by decide)) (fun _ => ?_)
  refine lv_aload_n hx hb dX1_put_10 rfl (lv_at hl 0 rfl) ?_
  refine va_get (D := (dC, dI)) (ci := 1) (v := .ref h1) (C := RX1) (T := TX1) (N := 6) hx hb hts hinX1 hown hK hP 1 rfl rfl 0 (by decide) (hts (.fieldLink RX1 11 "MayRings$Law" "codes" "[I") (List.mem_of_getElem? (i := 2) rfl)) (fun _ h9 => h9) rfl dX1_put_11 ?_
  refine lv_aload_n hx hb dX1_put_14 rfl (lv_at hl 0 rfl) ?_
  refine va_get (D := (dC, dI)) (ci := 1) (v := .int 1) (C := RX1) (T := TX1) (N := 6) hx hb hts hinX1 hown hK hP 1 rfl rfl 3 (by decide) (hts (.fieldLink RX1 21 "MayRings$Law" "length" "I") (List.mem_of_getElem? (i := 1) rfl)) (fun _ h9 => h9) rfl dX1_put_15 ?_
  refine lv_iload_n hx hb dX1_put_18 rfl (lv_at hl 1 rfl) ?_
  refine va_iast hx hb hK hP hD hS 0 1 rfl rfl (show ¬ (_ ∨ _) by decide) dX1_put_19 (fun H locs hP hD hS => ?_)
  have hP : va_P (dC, dI) vwCl [(h1, .inl (cI, 360, .inl (upd (upd (upd (upd (upd (fun _ => 0) (0 : Int32).toNatClampNeg (-14)) (1 : Int32).toNatClampNeg 99) (2 : Int32).toNatClampNeg (-23)) (0 : Int32).toNatClampNeg (-14)) (1 : Int32).toNatClampNeg 99))), (h0, .inr (1, [.ref h1, .ref h2, .ref h3, .int 1, .int 0, .int 0]))] H := hP
  have hD : va_D A [(h1, .inl (cI, 360, .inl (upd (upd (upd (upd (upd (fun _ => 0) (0 : Int32).toNatClampNeg (-14)) (1 : Int32).toNatClampNeg 99) (2 : Int32).toNatClampNeg (-23)) (0 : Int32).toNatClampNeg (-14)) (1 : Int32).toNatClampNeg 99))), (h0, .inr (1, [.ref h1, .ref h2, .ref h3, .int 1, .int 0, .int 0]))] := hD
  refine lv_aload_n hx hb dX1_put_20 rfl (lv_at hl 0 rfl) ?_
  refine lv_dup hx hb dX1_put_21 rfl ?_
  refine va_get (D := (dC, dI)) (ci := 1) (v := .int 1) (C := RX1) (T := TX1) (N := 6) hx hb hts hinX1 hown hK hP 1 rfl rfl 3 (by decide) (hts (.fieldLink RX1 21 "MayRings$Law" "length" "I") (List.mem_of_getElem? (i := 1) rfl)) (fun _ h9 => h9) rfl dX1_put_22 ?_
  refine lv_iconst (v := 1) hx hb dX1_put_25 (by decide) ?_
  refine lv_iadd hx hb dX1_put_26 ?_
  refine tp_v (.int 2) (congrArg Value.int (by decide)) ?_
  refine va_put (D := (dC, dI)) (ci := 1) (v := .int 2) (ty := .int) (C := RX1) (T := TX1) (N := 6) hx hb hts hinX1 tyX1 tyX1_ok nmX1 hown hK hP hD hS 1 rfl rfl 3 (by decide) (hts (.fieldLink RX1 21 "MayRings$Law" "length" "I") (List.mem_of_getElem? (i := 1) rfl)) (fun _ h9 => h9) rfl (by decide +kernel) rfl rfl (Nat.le_of_ble_eq_true rfl) dX1_put_27 (fun H locs hP hD hS => ?_)
  have hP : va_P (dC, dI) vwCl [(h1, .inl (cI, 360, .inl (upd (upd (upd (upd (upd (fun _ => 0) (0 : Int32).toNatClampNeg (-14)) (1 : Int32).toNatClampNeg 99) (2 : Int32).toNatClampNeg (-23)) (0 : Int32).toNatClampNeg (-14)) (1 : Int32).toNatClampNeg 99))), (h0, .inr (1, [.ref h1, .ref h2, .ref h3, .int 2, .int 0, .int 0]))] H := hP
  have hD : va_D A [(h1, .inl (cI, 360, .inl (upd (upd (upd (upd (upd (fun _ => 0) (0 : Int32).toNatClampNeg (-14)) (1 : Int32).toNatClampNeg 99) (2 : Int32).toNatClampNeg (-23)) (0 : Int32).toNatClampNeg (-14)) (1 : Int32).toNatClampNeg 99))), (h0, .inr (1, [.ref h1, .ref h2, .ref h3, .int 2, .int 0, .int 0]))] := hD
  have hP9 := hP.sub (ws' := [(h1, .inl (cI, 360, .inl (upd (upd (upd (upd (upd (fun _ => 0) (0 : Int32).toNatClampNeg (-14)) (1 : Int32).toNatClampNeg 99) (2 : Int32).toNatClampNeg (-23)) (0 : Int32).toNatClampNeg (-14)) (1 : Int32).toNatClampNeg 99))), (h0, .inr (1, [.ref h1, .ref h2, .ref h3, .int 2, .int 0, .int 0]))]) [0, 1] rfl
  have hD9 := hD.sub (ws' := [(h1, .inl (cI, 360, .inl (upd (upd (upd (upd (upd (fun _ => 0) (0 : Int32).toNatClampNeg (-14)) (1 : Int32).toNatClampNeg 99) (2 : Int32).toNatClampNeg (-23)) (0 : Int32).toNatClampNeg (-14)) (1 : Int32).toNatClampNeg 99))), (h0, .inr (1, [.ref h1, .ref h2, .ref h3, .int 2, .int 0, .int 0]))]) [0, 1] (by decide) rfl
  exact W.vret hx hb hr (fun t ht hW => ⟨⟨(), rfl, trivial, ⟨by rw [ht]; exact hP9, hD9⟩⟩, hS.F ht⟩) hS.2.2 dX1_put_30
def v_X1_put_6 : List Cond := Cond.code yX1_put cX1_put 2 none :: ([Cond.fieldLink RX1 21 "MayRings$Law" "length" "I", Cond.fieldLink RX1 11 "MayRings$Law" "codes" "[I"] ++ (wsX10 ++ ([])))
theorem k_X1_put_6 : GoodIn lw_tbl v_X1_put_6 := gd_c (List.mem_of_getElem? (i := 182) (by decide +kernel)) rfl (goodIn_app (gd_c (List.mem_of_getElem? (i := 186) (by decide +kernel)) rfl (gd_c (List.mem_of_getElem? (i := 183) (by decide +kernel)) rfl (gd_nil))) (goodIn_app kfX1 (gd_nil)))
set_option maxHeartbeats 600000 in
set_option maxRecDepth 100000 in
theorem c_X1_put_6 (l : Launch) (dC : Nat → ClassId) (dI : Nat → Nat → Nat) (cB cI cJ cZ cP : ClassId) (h0 : Nat) (h1 : Nat) (h2 : Nat) (h3 : Nat) (sz : Nat) : Met l yX1_put v_X1_put_6 ({ frames := 0, cells := 0, slots := 0, locals := 0 }) (va_Pc [.ref h0, .int (-23)] (fun U => U.heap.size = sz ∧ va_P (dC, dI) vwCl [(h1, .inl (cI, 360, .inl (upd (upd (upd (upd (upd (fun _ => 0) (0 : Int32).toNatClampNeg (-14)) (1 : Int32).toNatClampNeg 99) (2 : Int32).toNatClampNeg (-23)) (0 : Int32).toNatClampNeg (-14)) (1 : Int32).toNatClampNeg 99))), (h0, .inr (1, [.ref h1, .ref h2, .ref h3, .int 2, .int 0, .int 0]))] U.heap ∧ va_K (dC, dI) vwCl (ty5 cB cI cJ cZ cP) U ∧ va_D (fun _ => True) [(h1, .inl (cI, 360, .inl (upd (upd (upd (upd (upd (fun _ => 0) (0 : Int32).toNatClampNeg (-14)) (1 : Int32).toNatClampNeg 99) (2 : Int32).toNatClampNeg (-23)) (0 : Int32).toNatClampNeg (-14)) (1 : Int32).toNatClampNeg 99))), (h0, .inr (1, [.ref h1, .ref h2, .ref h3, .int 2, .int 0, .int 0]))])) (va_Qv (fun _ : Unit => True) (fun _ t => va_P (dC, dI) vwCl [(h1, .inl (cI, 360, .inl (upd (upd (upd (upd (upd (upd (fun _ => 0) (0 : Int32).toNatClampNeg (-14)) (1 : Int32).toNatClampNeg 99) (2 : Int32).toNatClampNeg (-23)) (0 : Int32).toNatClampNeg (-14)) (1 : Int32).toNatClampNeg 99) (2 : Int32).toNatClampNeg (-23)))), (h0, .inr (1, [.ref h1, .ref h2, .ref h3, .int 3, .int 0, .int 0]))] t.heap ∧ va_D (va_A [(h1, .inl (cI, 360, .inl (upd (upd (upd (upd (upd (fun _ => 0) (0 : Int32).toNatClampNeg (-14)) (1 : Int32).toNatClampNeg 99) (2 : Int32).toNatClampNeg (-23)) (0 : Int32).toNatClampNeg (-14)) (1 : Int32).toNatClampNeg 99))), (h0, .inr (1, [.ref h1, .ref h2, .ref h3, .int 2, .int 0, .int 0]))] sz) [(h1, .inl (cI, 360, .inl (upd (upd (upd (upd (upd (upd (fun _ => 0) (0 : Int32).toNatClampNeg (-14)) (1 : Int32).toNatClampNeg 99) (2 : Int32).toNatClampNeg (-23)) (0 : Int32).toNatClampNeg (-14)) (1 : Int32).toNatClampNeg 99) (2 : Int32).toNatClampNeg (-23)))), (h0, .inr (1, [.ref h1, .ref h2, .ref h3, .int 3, .int 0, .int 0]))]) (va_A [(h1, .inl (cI, 360, .inl (upd (upd (upd (upd (upd (fun _ => 0) (0 : Int32).toNatClampNeg (-14)) (1 : Int32).toNatClampNeg 99) (2 : Int32).toNatClampNeg (-23)) (0 : Int32).toNatClampNeg (-14)) (1 : Int32).toNatClampNeg 99))), (h0, .inr (1, [.ref h1, .ref h2, .ref h3, .int 2, .int 0, .int 0]))] sz)) 0 0 (va_A [(h1, .inl (cI, 360, .inl (upd (upd (upd (upd (upd (fun _ => 0) (0 : Int32).toNatClampNeg (-14)) (1 : Int32).toNatClampNeg 99) (2 : Int32).toNatClampNeg (-23)) (0 : Int32).toNatClampNeg (-14)) (1 : Int32).toNatClampNeg 99))), (h0, .inr (1, [.ref h1, .ref h2, .ref h3, .int 2, .int 0, .int 0]))] sz) := by
  refine Met.ofW (cc := cX1_put) (maxL := 2) (ret := none) (by decide) rfl ?_
  intro p e s m args below meth c s₁ B hml hv
  obtain ⟨rfl, hsz, hP, hK, hD0⟩ := hv
  have hx := B.exec
  have hb := B.bytes
  have hr := B.returns
  have hts := atoms_spec (ws := v_X1_put_6) B.pre
  have hown : s.vm.findClass RX1 = some m.cls := findClass_of_methodNamed B.named
  have hlocks := B.notSynchronized
  have hinX1 : ∀ w ∈ wsX10, w ∈ v_X1_put_6 := fun _ h => List.mem_cons_of_mem _ (List.mem_append_right _ (List.mem_append_left _ h))
  subst hsz
  have hD := hD0.self (sz := s.heap.size)
  generalize hAe : va_A [(h1, .inl (cI, 360, .inl (upd (upd (upd (upd (upd (fun _ => 0) (0 : Int32).toNatClampNeg (-14)) (1 : Int32).toNatClampNeg 99) (2 : Int32).toNatClampNeg (-23)) (0 : Int32).toNatClampNeg (-14)) (1 : Int32).toNatClampNeg 99))), (h0, .inr (1, [.ref h1, .ref h2, .ref h3, .int 2, .int 0, .int 0]))] s.heap.size = A at hD ⊢
  have hA : ∀ q : Nat, s.heap.size ≤ q → A q := fun q h => by rw [← hAe]; exact Or.inr h
  have hP : va_P (dC, dI) vwCl [(h1, .inl (cI, 360, .inl (upd (upd (upd (upd (upd (fun _ => 0) (0 : Int32).toNatClampNeg (-14)) (1 : Int32).toNatClampNeg 99) (2 : Int32).toNatClampNeg (-23)) (0 : Int32).toNatClampNeg (-14)) (1 : Int32).toNatClampNeg 99))), (h0, .inr (1, [.ref h1, .ref h2, .ref h3, .int 2, .int 0, .int 0]))] s.heap := hP
  have hl := lv_entry ([.ref h0, .int (-23)]) (n := 2) (Nat.le_of_ble_eq_true rfl)
  rw [lg_entry_eq]
  generalize (lg_sl ([.ref h0, .int (-23)]) ++ List.replicate (2 - (lg_sl ([.ref h0, .int (-23)])).length) Slot.unset).toArray = ls at hl ⊢
  have hl : lv_has ls 2 [(0, .ref h0), (1, .int (-23))] := hl
  refine W_gen (A := A) hP (fun H locs hP hS => ?_)
  refine lv_aload_n hx hb dX1_put_0 rfl (lv_at hl 0 rfl) ?_
  refine va_get (D := (dC, dI)) (ci := 1) (v := .int 2) (C := RX1) (T := TX1) (N := 6) hx hb hts hinX1 hown hK hP 1 rfl rfl 3 (by decide) (hts (.fieldLink RX1 21 "MayRings$Law" "length" "I") (List.mem_of_getElem? (i := 1) rfl)) (fun _ h9 => h9) rfl dX1_put_1 ?_
  refine lv_sipush (v := 360) hx hb dX1_put_4 (by decide) ?_
  refine lv_icmp_ge (tgt := 30) hx hb dX1_put_7 (by decide) (fun cz => absurd cz (by decide)) (fun _ => ?_)
  refine lv_aload_n hx hb dX1_put_10 rfl (lv_at hl 0 rfl) ?_
  refine va_get (D := (dC, dI)) (ci := 1) (v := .ref h1) (C := RX1) (T := TX1) (N := 6) hx hb hts hinX1 hown hK hP 1 rfl rfl 0 (by decide) (hts (.fieldLink RX1 11 "MayRings$Law" "codes" "[I") (List.mem_of_getElem? (i := 2) rfl)) (fun _ h9 => h9) rfl dX1_put_11 ?_
  refine lv_aload_n hx hb dX1_put_14 rfl (lv_at hl 0 rfl) ?_
  refine va_get (D := (dC, dI)) (ci := 1) (v := .int 2) (C := RX1) (T := TX1) (N := 6) hx hb hts hinX1 hown hK hP 1 rfl rfl 3 (by decide) (hts (.fieldLink RX1 21 "MayRings$Law" "length" "I") (List.mem_of_getElem? (i := 1) rfl)) (fun _ h9 => h9) rfl dX1_put_15 ?_
  refine lv_iload_n hx hb dX1_put_18 rfl (lv_at hl 1 rfl) ?_
  refine va_iast hx hb hK hP hD hS 0 1 rfl rfl (show ¬ (_ ∨ _) by decide) dX1_put_19 (fun H locs hP hD hS => ?_)
  have hP : va_P (dC, dI) vwCl [(h1, .inl (cI, 360, .inl (upd (upd (upd (upd (upd (upd (fun _ => 0) (0 : Int32).toNatClampNeg (-14)) (1 : Int32).toNatClampNeg 99) (2 : Int32).toNatClampNeg (-23)) (0 : Int32).toNatClampNeg (-14)) (1 : Int32).toNatClampNeg 99) (2 : Int32).toNatClampNeg (-23)))), (h0, .inr (1, [.ref h1, .ref h2, .ref h3, .int 2, .int 0, .int 0]))] H := hP
  have hD : va_D A [(h1, .inl (cI, 360, .inl (upd (upd (upd (upd (upd (upd (fun _ => 0) (0 : Int32).toNatClampNeg (-14)) (1 : Int32).toNatClampNeg 99) (2 : Int32).toNatClampNeg (-23)) (0 : Int32).toNatClampNeg (-14)) (1 : Int32).toNatClampNeg 99) (2 : Int32).toNatClampNeg (-23)))), (h0, .inr (1, [.ref h1, .ref h2, .ref h3, .int 2, .int 0, .int 0]))] := hD
  refine lv_aload_n hx hb dX1_put_20 rfl (lv_at hl 0 rfl) ?_
  refine lv_dup hx hb dX1_put_21 rfl ?_
  refine va_get (D := (dC, dI)) (ci := 1) (v := .int 2) (C := RX1) (T := TX1) (N := 6) hx hb hts hinX1 hown hK hP 1 rfl rfl 3 (by decide) (hts (.fieldLink RX1 21 "MayRings$Law" "length" "I") (List.mem_of_getElem? (i := 1) rfl)) (fun _ h9 => h9) rfl dX1_put_22 ?_
  refine lv_iconst (v := 1) hx hb dX1_put_25 (by decide) ?_
  refine lv_iadd hx hb dX1_put_26 ?_
  refine tp_v (.int 3) (congrArg Value.int (by decide)) ?_
  refine va_put (D := (dC, dI)) (ci := 1) (v := .int 3) (ty := .int) (C := RX1) (T := TX1) (N := 6) hx hb hts hinX1 tyX1 tyX1_ok nmX1 hown hK hP hD hS 1 rfl rfl 3 (by decide) (hts (.fieldLink RX1 21 "MayRings$Law" "length" "I") (List.mem_of_getElem? (i := 1) rfl)) (fun _ h9 => h9) rfl (by decide +kernel) rfl rfl (Nat.le_of_ble_eq_true rfl) dX1_put_27 (fun H locs hP hD hS => ?_)
  have hP : va_P (dC, dI) vwCl [(h1, .inl (cI, 360, .inl (upd (upd (upd (upd (upd (upd (fun _ => 0) (0 : Int32).toNatClampNeg (-14)) (1 : Int32).toNatClampNeg 99) (2 : Int32).toNatClampNeg (-23)) (0 : Int32).toNatClampNeg (-14)) (1 : Int32).toNatClampNeg 99) (2 : Int32).toNatClampNeg (-23)))), (h0, .inr (1, [.ref h1, .ref h2, .ref h3, .int 3, .int 0, .int 0]))] H := hP
  have hD : va_D A [(h1, .inl (cI, 360, .inl (upd (upd (upd (upd (upd (upd (fun _ => 0) (0 : Int32).toNatClampNeg (-14)) (1 : Int32).toNatClampNeg 99) (2 : Int32).toNatClampNeg (-23)) (0 : Int32).toNatClampNeg (-14)) (1 : Int32).toNatClampNeg 99) (2 : Int32).toNatClampNeg (-23)))), (h0, .inr (1, [.ref h1, .ref h2, .ref h3, .int 3, .int 0, .int 0]))] := hD
  have hP9 := hP.sub (ws' := [(h1, .inl (cI, 360, .inl (upd (upd (upd (upd (upd (upd (fun _ => 0) (0 : Int32).toNatClampNeg (-14)) (1 : Int32).toNatClampNeg 99) (2 : Int32).toNatClampNeg (-23)) (0 : Int32).toNatClampNeg (-14)) (1 : Int32).toNatClampNeg 99) (2 : Int32).toNatClampNeg (-23)))), (h0, .inr (1, [.ref h1, .ref h2, .ref h3, .int 3, .int 0, .int 0]))]) [0, 1] rfl
  have hD9 := hD.sub (ws' := [(h1, .inl (cI, 360, .inl (upd (upd (upd (upd (upd (upd (fun _ => 0) (0 : Int32).toNatClampNeg (-14)) (1 : Int32).toNatClampNeg 99) (2 : Int32).toNatClampNeg (-23)) (0 : Int32).toNatClampNeg (-14)) (1 : Int32).toNatClampNeg 99) (2 : Int32).toNatClampNeg (-23)))), (h0, .inr (1, [.ref h1, .ref h2, .ref h3, .int 3, .int 0, .int 0]))]) [0, 1] (by decide) rfl
  exact W.vret hx hb hr (fun t ht hW => ⟨⟨(), rfl, trivial, ⟨by rw [ht]; exact hP9, hD9⟩⟩, hS.F ht⟩) hS.2.2 dX1_put_30
def v_X1_putSinceNever_2 : List Cond := Cond.code yX1_putSinceNever cX1_putSinceNever 1 none :: ([Cond.methodLink RX1 34 yX1_put, Cond.instanceMethod yX1_put, Cond.selects RX1 yX1_put yX1_put, Cond.initialized RX1] ++ (v_X1_put_4 ++ (v_X1_put_5 ++ (v_X1_put_6 ++ ([])))))
theorem k_X1_putSinceNever_2 : GoodIn lw_tbl v_X1_putSinceNever_2 := gd_c (List.mem_of_getElem? (i := 178) (by decide +kernel)) rfl (goodIn_app (gd_c (List.mem_of_getElem? (i := 179) (by decide +kernel)) rfl (gd_c (List.mem_of_getElem? (i := 180) (by decide +kernel)) rfl (gd_c (List.mem_of_getElem? (i := 181) (by decide +kernel)) rfl (gd_c (List.mem_of_getElem? (i := 133) (by decide +kernel)) rfl (gd_nil))))) (goodIn_app k_X1_put_4 (goodIn_app k_X1_put_5 (goodIn_app k_X1_put_6 (gd_nil)))))
set_option maxHeartbeats 600000 in
set_option maxRecDepth 100000 in
theorem c_X1_putSinceNever_2 (l : Launch) (dC : Nat → ClassId) (dI : Nat → Nat → Nat) (cB cI cJ cZ cP : ClassId) (h0 : Nat) (h1 : Nat) (h2 : Nat) (h3 : Nat) (sz : Nat) : Met l yX1_putSinceNever v_X1_putSinceNever_2 ({ frames := 1, cells := 0, slots := 0, locals := 21 }) (va_Pc [.ref h0] (fun U => U.heap.size = sz ∧ va_P (dC, dI) vwCl [(h1, .inl (cI, 360, .inl (upd (upd (upd (fun _ => 0) (0 : Int32).toNatClampNeg (-14)) (1 : Int32).toNatClampNeg 99) (2 : Int32).toNatClampNeg (-23)))), (h0, .inr (1, [.ref h1, .ref h2, .ref h3, .int 0, .int 0, .int 0]))] U.heap ∧ va_K (dC, dI) vwCl (ty5 cB cI cJ cZ cP) U ∧ va_D (fun _ => True) [(h1, .inl (cI, 360, .inl (upd (upd (upd (fun _ => 0) (0 : Int32).toNatClampNeg (-14)) (1 : Int32).toNatClampNeg 99) (2 : Int32).toNatClampNeg (-23)))), (h0, .inr (1, [.ref h1, .ref h2, .ref h3, .int 0, .int 0, .int 0]))])) (va_Qv (fun _ : Unit => True) (fun _ t => va_P (dC, dI) vwCl [(h1, .inl (cI, 360, .inl (upd (upd (upd (upd (upd (upd (fun _ => 0) (0 : Int32).toNatClampNeg (-14)) (1 : Int32).toNatClampNeg 99) (2 : Int32).toNatClampNeg (-23)) (0 : Int32).toNatClampNeg (-14)) (1 : Int32).toNatClampNeg 99) (2 : Int32).toNatClampNeg (-23)))), (h0, .inr (1, [.ref h1, .ref h2, .ref h3, .int 3, .int 0, .int 0]))] t.heap ∧ va_D (va_A [(h1, .inl (cI, 360, .inl (upd (upd (upd (fun _ => 0) (0 : Int32).toNatClampNeg (-14)) (1 : Int32).toNatClampNeg 99) (2 : Int32).toNatClampNeg (-23)))), (h0, .inr (1, [.ref h1, .ref h2, .ref h3, .int 0, .int 0, .int 0]))] sz) [(h1, .inl (cI, 360, .inl (upd (upd (upd (upd (upd (upd (fun _ => 0) (0 : Int32).toNatClampNeg (-14)) (1 : Int32).toNatClampNeg 99) (2 : Int32).toNatClampNeg (-23)) (0 : Int32).toNatClampNeg (-14)) (1 : Int32).toNatClampNeg 99) (2 : Int32).toNatClampNeg (-23)))), (h0, .inr (1, [.ref h1, .ref h2, .ref h3, .int 3, .int 0, .int 0]))]) (va_A [(h1, .inl (cI, 360, .inl (upd (upd (upd (fun _ => 0) (0 : Int32).toNatClampNeg (-14)) (1 : Int32).toNatClampNeg 99) (2 : Int32).toNatClampNeg (-23)))), (h0, .inr (1, [.ref h1, .ref h2, .ref h3, .int 0, .int 0, .int 0]))] sz)) 0 0 (va_A [(h1, .inl (cI, 360, .inl (upd (upd (upd (fun _ => 0) (0 : Int32).toNatClampNeg (-14)) (1 : Int32).toNatClampNeg 99) (2 : Int32).toNatClampNeg (-23)))), (h0, .inr (1, [.ref h1, .ref h2, .ref h3, .int 0, .int 0, .int 0]))] sz) := by
  refine Met.ofW (cc := cX1_putSinceNever) (maxL := 1) (ret := none) (by decide) rfl ?_
  intro p e s m args below meth c s₁ B hml hv
  obtain ⟨rfl, hsz, hP, hK, hD0⟩ := hv
  have hx := B.exec
  have hb := B.bytes
  have hr := B.returns
  have hts := atoms_spec (ws := v_X1_putSinceNever_2) B.pre
  have hown : s.vm.findClass RX1 = some m.cls := findClass_of_methodNamed B.named
  have hlocks := B.notSynchronized
  subst hsz
  have hD := hD0.self (sz := s.heap.size)
  generalize hAe : va_A [(h1, .inl (cI, 360, .inl (upd (upd (upd (fun _ => 0) (0 : Int32).toNatClampNeg (-14)) (1 : Int32).toNatClampNeg 99) (2 : Int32).toNatClampNeg (-23)))), (h0, .inr (1, [.ref h1, .ref h2, .ref h3, .int 0, .int 0, .int 0]))] s.heap.size = A at hD ⊢
  have hA : ∀ q : Nat, s.heap.size ≤ q → A q := fun q h => by rw [← hAe]; exact Or.inr h
  have hP : va_P (dC, dI) vwCl [(h1, .inl (cI, 360, .inl (upd (upd (upd (fun _ => 0) (0 : Int32).toNatClampNeg (-14)) (1 : Int32).toNatClampNeg 99) (2 : Int32).toNatClampNeg (-23)))), (h0, .inr (1, [.ref h1, .ref h2, .ref h3, .int 0, .int 0, .int 0]))] s.heap := hP
  have hl := lv_entry ([.ref h0]) (n := 1) (Nat.le_of_ble_eq_true rfl)
  rw [lg_entry_eq]
  generalize (lg_sl ([.ref h0]) ++ List.replicate (1 - (lg_sl ([.ref h0])).length) Slot.unset).toArray = ls at hl ⊢
  have hl : lv_has ls 1 [(0, .ref h0)] := hl
  refine W_gen (A := A) hP (fun H locs hP hS => ?_)
  refine lv_aload_n hx hb dX1_putSinceNever_0 rfl (lv_at hl 0 rfl) ?_
  refine lv_bipush (v := (-14)) hx hb dX1_putSinceNever_1 (by decide) ?_
  have hPc := hP.sub (ws' := [(h1, .inl (cI, 360, .inl (upd (upd (upd (fun _ => 0) (0 : Int32).toNatClampNeg (-14)) (1 : Int32).toNatClampNeg 99) (2 : Int32).toNatClampNeg (-23)))), (h0, .inr (1, [.ref h1, .ref h2, .ref h3, .int 0, .int 0, .int 0]))]) [0, 1] rfl
  have hDc := hD.sub (ws' := [(h1, .inl (cI, 360, .inl (upd (upd (upd (fun _ => 0) (0 : Int32).toNatClampNeg (-14)) (1 : Int32).toNatClampNeg 99) (2 : Int32).toNatClampNeg (-23)))), (h0, .inr (1, [.ref h1, .ref h2, .ref h3, .int 0, .int 0, .int 0]))]) [0, 1] (by decide) rfl
  have hFc := va_free (wc := [(h1, .inl (cI, 360, .inl (upd (upd (upd (fun _ => 0) (0 : Int32).toNatClampNeg (-14)) (1 : Int32).toNatClampNeg 99) (2 : Int32).toNatClampNeg (-23)))), (h0, .inr (1, [.ref h1, .ref h2, .ref h3, .int 0, .int 0, .int 0]))]) hD hS hA [0, 1] rfl
  refine va_callv (va_runV (As := [.int (-14)]) (rest := []) ⟨hx, hb, hml, hown, hts⟩ (c_X1_put_4 l dC dI cB cI cJ cZ cP h0 h1 h2 h3 H.size) (cwV 1 hts (gd_V (List.mem_of_getElem? (i := 1) rfl) (List.mem_of_getElem? (i := 2) rfl) (List.mem_of_getElem? (i := 3) rfl) (List.mem_of_getElem? (i := 4) rfl) (gd_mono k_X1_put_4 (fun _ h => List.mem_cons_of_mem _ (List.mem_append_right _ (List.mem_append_left _ h))))) rfl rfl rfl (by decide +kernel) ⟨Nat.le_of_ble_eq_true rfl, Nat.le_of_ble_eq_true rfl⟩) ⟨fun a U g mk q => by obtain ⟨q0, q1, qP, qK, qD⟩ := q; exact ⟨q0, q1, qP, va_K.moved (u := U) (U := U.calling g mk a) (Vm.Alike.refl U.vm) qK, qD⟩, va_recv hK hPc (ci := 1) (q0 := 1) rfl rfl, fun U hU hW => ⟨rfl, by rw [hU], by rw [hU]; exact hPc, va_K.moved hW.alike hK, hDc.weaken (fun _ _ _ _ => trivial)⟩⟩ rfl rfl hl.1 rfl (lv_room (Nat.le_of_ble_eq_true rfl)) dX1_putSinceNever_3 ⟨Nat.le_of_ble_eq_true rfl, Nat.le_of_ble_eq_true rfl⟩) hS (fun q _ h => hFc q h) hFc (fun u t H1 locs ht hvm hw hB hz1 hk1 hS => ?_)
  obtain ⟨hP1, hD1⟩ := hB
  rw [ht] at hP1
  obtain ⟨hP, hD⟩ := va_join (wr := []) (w1 := [(h1, .inl (cI, 360, .inl (upd (upd (upd (upd (fun _ => 0) (0 : Int32).toNatClampNeg (-14)) (1 : Int32).toNatClampNeg 99) (2 : Int32).toNatClampNeg (-23)) (0 : Int32).toNatClampNeg (-14)))), (h0, .inr (1, [.ref h1, .ref h2, .ref h3, .int 1, .int 0, .int 0]))]) hP hD [0, 1] [] rfl rfl (by decide) (by decide) hk1 hFc hP1 hD1
  generalize H1 = H at hP hS ⊢
  have hP : va_P (dC, dI) vwCl [(h1, .inl (cI, 360, .inl (upd (upd (upd (upd (fun _ => 0) (0 : Int32).toNatClampNeg (-14)) (1 : Int32).toNatClampNeg 99) (2 : Int32).toNatClampNeg (-23)) (0 : Int32).toNatClampNeg (-14)))), (h0, .inr (1, [.ref h1, .ref h2, .ref h3, .int 1, .int 0, .int 0]))] H := hP
  have hD : va_D A [(h1, .inl (cI, 360, .inl (upd (upd (upd (upd (fun _ => 0) (0 : Int32).toNatClampNeg (-14)) (1 : Int32).toNatClampNeg 99) (2 : Int32).toNatClampNeg (-23)) (0 : Int32).toNatClampNeg (-14)))), (h0, .inr (1, [.ref h1, .ref h2, .ref h3, .int 1, .int 0, .int 0]))] := hD
  refine lv_aload_n hx hb dX1_putSinceNever_6 rfl (lv_at hl 0 rfl) ?_
  refine lv_bipush (v := 99) hx hb dX1_putSinceNever_7 (by decide) ?_
  have hPc := hP.sub (ws' := [(h1, .inl (cI, 360, .inl (upd (upd (upd (upd (fun _ => 0) (0 : Int32).toNatClampNeg (-14)) (1 : Int32).toNatClampNeg 99) (2 : Int32).toNatClampNeg (-23)) (0 : Int32).toNatClampNeg (-14)))), (h0, .inr (1, [.ref h1, .ref h2, .ref h3, .int 1, .int 0, .int 0]))]) [0, 1] rfl
  have hDc := hD.sub (ws' := [(h1, .inl (cI, 360, .inl (upd (upd (upd (upd (fun _ => 0) (0 : Int32).toNatClampNeg (-14)) (1 : Int32).toNatClampNeg 99) (2 : Int32).toNatClampNeg (-23)) (0 : Int32).toNatClampNeg (-14)))), (h0, .inr (1, [.ref h1, .ref h2, .ref h3, .int 1, .int 0, .int 0]))]) [0, 1] (by decide) rfl
  have hFc := va_free (wc := [(h1, .inl (cI, 360, .inl (upd (upd (upd (upd (fun _ => 0) (0 : Int32).toNatClampNeg (-14)) (1 : Int32).toNatClampNeg 99) (2 : Int32).toNatClampNeg (-23)) (0 : Int32).toNatClampNeg (-14)))), (h0, .inr (1, [.ref h1, .ref h2, .ref h3, .int 1, .int 0, .int 0]))]) hD hS hA [0, 1] rfl
  refine va_callv (va_runV (As := [.int 99]) (rest := []) ⟨hx, hb, hml, hown, hts⟩ (c_X1_put_5 l dC dI cB cI cJ cZ cP h0 h1 h2 h3 H.size) (cwV 1 hts (gd_V (List.mem_of_getElem? (i := 1) rfl) (List.mem_of_getElem? (i := 2) rfl) (List.mem_of_getElem? (i := 3) rfl) (List.mem_of_getElem? (i := 4) rfl) (gd_mono k_X1_put_5 (fun _ h => List.mem_cons_of_mem _ (List.mem_append_right _ (List.mem_append_right _ (List.mem_append_left _ h)))))) rfl rfl rfl (by decide +kernel) ⟨Nat.le_of_ble_eq_true rfl, Nat.le_of_ble_eq_true rfl⟩) ⟨fun a U g mk q => by obtain ⟨q0, q1, qP, qK, qD⟩ := q; exact ⟨q0, q1, qP, va_K.moved (u := U) (U := U.calling g mk a) (Vm.Alike.refl U.vm) qK, qD⟩, va_recv hK hPc (ci := 1) (q0 := 1) rfl rfl, fun U hU hW => ⟨rfl, by rw [hU], by rw [hU]; exact hPc, va_K.moved hW.alike hK, hDc.weaken (fun _ _ _ _ => trivial)⟩⟩ rfl rfl hl.1 rfl (lv_room (Nat.le_of_ble_eq_true rfl)) dX1_putSinceNever_9 ⟨Nat.le_of_ble_eq_true rfl, Nat.le_of_ble_eq_true rfl⟩) hS (fun q _ h => hFc q h) hFc (fun u t H1 locs ht hvm hw hB hz1 hk1 hS => ?_)
  obtain ⟨hP1, hD1⟩ := hB
  rw [ht] at hP1
  obtain ⟨hP, hD⟩ := va_join (wr := []) (w1 := [(h1, .inl (cI, 360, .inl (upd (upd (upd (upd (upd (fun _ => 0) (0 : Int32).toNatClampNeg (-14)) (1 : Int32).toNatClampNeg 99) (2 : Int32).toNatClampNeg (-23)) (0 : Int32).toNatClampNeg (-14)) (1 : Int32).toNatClampNeg 99))), (h0, .inr (1, [.ref h1, .ref h2, .ref h3, .int 2, .int 0, .int 0]))]) hP hD [0, 1] [] rfl rfl (by decide) (by decide) hk1 hFc hP1 hD1
  generalize H1 = H at hP hS ⊢
  have hP : va_P (dC, dI) vwCl [(h1, .inl (cI, 360, .inl (upd (upd (upd (upd (upd (fun _ => 0) (0 : Int32).toNatClampNeg (-14)) (1 : Int32).toNatClampNeg 99) (2 : Int32).toNatClampNeg (-23)) (0 : Int32).toNatClampNeg (-14)) (1 : Int32).toNatClampNeg 99))), (h0, .inr (1, [.ref h1, .ref h2, .ref h3, .int 2, .int 0, .int 0]))] H := hP
  have hD : va_D A [(h1, .inl (cI, 360, .inl (upd (upd (upd (upd (upd (fun _ => 0) (0 : Int32).toNatClampNeg (-14)) (1 : Int32).toNatClampNeg 99) (2 : Int32).toNatClampNeg (-23)) (0 : Int32).toNatClampNeg (-14)) (1 : Int32).toNatClampNeg 99))), (h0, .inr (1, [.ref h1, .ref h2, .ref h3, .int 2, .int 0, .int 0]))] := hD
  refine lv_aload_n hx hb dX1_putSinceNever_12 rfl (lv_at hl 0 rfl) ?_
  refine lv_bipush (v := (-23)) hx hb dX1_putSinceNever_13 (by decide) ?_
  have hPc := hP.sub (ws' := [(h1, .inl (cI, 360, .inl (upd (upd (upd (upd (upd (fun _ => 0) (0 : Int32).toNatClampNeg (-14)) (1 : Int32).toNatClampNeg 99) (2 : Int32).toNatClampNeg (-23)) (0 : Int32).toNatClampNeg (-14)) (1 : Int32).toNatClampNeg 99))), (h0, .inr (1, [.ref h1, .ref h2, .ref h3, .int 2, .int 0, .int 0]))]) [0, 1] rfl
  have hDc := hD.sub (ws' := [(h1, .inl (cI, 360, .inl (upd (upd (upd (upd (upd (fun _ => 0) (0 : Int32).toNatClampNeg (-14)) (1 : Int32).toNatClampNeg 99) (2 : Int32).toNatClampNeg (-23)) (0 : Int32).toNatClampNeg (-14)) (1 : Int32).toNatClampNeg 99))), (h0, .inr (1, [.ref h1, .ref h2, .ref h3, .int 2, .int 0, .int 0]))]) [0, 1] (by decide) rfl
  have hFc := va_free (wc := [(h1, .inl (cI, 360, .inl (upd (upd (upd (upd (upd (fun _ => 0) (0 : Int32).toNatClampNeg (-14)) (1 : Int32).toNatClampNeg 99) (2 : Int32).toNatClampNeg (-23)) (0 : Int32).toNatClampNeg (-14)) (1 : Int32).toNatClampNeg 99))), (h0, .inr (1, [.ref h1, .ref h2, .ref h3, .int 2, .int 0, .int 0]))]) hD hS hA [0, 1] rfl
  refine va_callv (va_runV (As := [.int (-23)]) (rest := []) ⟨hx, hb, hml, hown, hts⟩ (c_X1_put_6 l dC dI cB cI cJ cZ cP h0 h1 h2 h3 H.size) (cwV 1 hts (gd_V (List.mem_of_getElem? (i := 1) rfl) (List.mem_of_getElem? (i := 2) rfl) (List.mem_of_getElem? (i := 3) rfl) (List.mem_of_getElem? (i := 4) rfl) (gd_mono k_X1_put_6 (fun _ h => List.mem_cons_of_mem _ (List.mem_append_right _ (List.mem_append_right _ (List.mem_append_right _ (List.mem_append_left _ h))))))) rfl rfl rfl (by decide +kernel) ⟨Nat.le_of_ble_eq_true rfl, Nat.le_of_ble_eq_true rfl⟩) ⟨fun a U g mk q => by obtain ⟨q0, q1, qP, qK, qD⟩ := q; exact ⟨q0, q1, qP, va_K.moved (u := U) (U := U.calling g mk a) (Vm.Alike.refl U.vm) qK, qD⟩, va_recv hK hPc (ci := 1) (q0 := 1) rfl rfl, fun U hU hW => ⟨rfl, by rw [hU], by rw [hU]; exact hPc, va_K.moved hW.alike hK, hDc.weaken (fun _ _ _ _ => trivial)⟩⟩ rfl rfl hl.1 rfl (lv_room (Nat.le_of_ble_eq_true rfl)) dX1_putSinceNever_15 ⟨Nat.le_of_ble_eq_true rfl, Nat.le_of_ble_eq_true rfl⟩) hS (fun q _ h => hFc q h) hFc (fun u t H1 locs ht hvm hw hB hz1 hk1 hS => ?_)
  obtain ⟨hP1, hD1⟩ := hB
  rw [ht] at hP1
  obtain ⟨hP, hD⟩ := va_join (wr := []) (w1 := [(h1, .inl (cI, 360, .inl (upd (upd (upd (upd (upd (upd (fun _ => 0) (0 : Int32).toNatClampNeg (-14)) (1 : Int32).toNatClampNeg 99) (2 : Int32).toNatClampNeg (-23)) (0 : Int32).toNatClampNeg (-14)) (1 : Int32).toNatClampNeg 99) (2 : Int32).toNatClampNeg (-23)))), (h0, .inr (1, [.ref h1, .ref h2, .ref h3, .int 3, .int 0, .int 0]))]) hP hD [0, 1] [] rfl rfl (by decide) (by decide) hk1 hFc hP1 hD1
  generalize H1 = H at hP hS ⊢
  have hP : va_P (dC, dI) vwCl [(h1, .inl (cI, 360, .inl (upd (upd (upd (upd (upd (upd (fun _ => 0) (0 : Int32).toNatClampNeg (-14)) (1 : Int32).toNatClampNeg 99) (2 : Int32).toNatClampNeg (-23)) (0 : Int32).toNatClampNeg (-14)) (1 : Int32).toNatClampNeg 99) (2 : Int32).toNatClampNeg (-23)))), (h0, .inr (1, [.ref h1, .ref h2, .ref h3, .int 3, .int 0, .int 0]))] H := hP
  have hD : va_D A [(h1, .inl (cI, 360, .inl (upd (upd (upd (upd (upd (upd (fun _ => 0) (0 : Int32).toNatClampNeg (-14)) (1 : Int32).toNatClampNeg 99) (2 : Int32).toNatClampNeg (-23)) (0 : Int32).toNatClampNeg (-14)) (1 : Int32).toNatClampNeg 99) (2 : Int32).toNatClampNeg (-23)))), (h0, .inr (1, [.ref h1, .ref h2, .ref h3, .int 3, .int 0, .int 0]))] := hD
  have hP9 := hP.sub (ws' := [(h1, .inl (cI, 360, .inl (upd (upd (upd (upd (upd (upd (fun _ => 0) (0 : Int32).toNatClampNeg (-14)) (1 : Int32).toNatClampNeg 99) (2 : Int32).toNatClampNeg (-23)) (0 : Int32).toNatClampNeg (-14)) (1 : Int32).toNatClampNeg 99) (2 : Int32).toNatClampNeg (-23)))), (h0, .inr (1, [.ref h1, .ref h2, .ref h3, .int 3, .int 0, .int 0]))]) [0, 1] rfl
  have hD9 := hD.sub (ws' := [(h1, .inl (cI, 360, .inl (upd (upd (upd (upd (upd (upd (fun _ => 0) (0 : Int32).toNatClampNeg (-14)) (1 : Int32).toNatClampNeg 99) (2 : Int32).toNatClampNeg (-23)) (0 : Int32).toNatClampNeg (-14)) (1 : Int32).toNatClampNeg 99) (2 : Int32).toNatClampNeg (-23)))), (h0, .inr (1, [.ref h1, .ref h2, .ref h3, .int 3, .int 0, .int 0]))]) [0, 1] (by decide) rfl
  exact W.vret hx hb hr (fun t ht hW => ⟨⟨(), rfl, trivial, ⟨by rw [ht]; exact hP9, hD9⟩⟩, hS.F ht⟩) hS.2.2 dX1_putSinceNever_18
def v_X1_clear : List Cond := Cond.code yX1_clear cX1_clear 1 none :: ([Cond.methodLink RX1 38 yX1_open, Cond.instanceMethod yX1_open, Cond.selects RX1 yX1_open yX1_open, Cond.initialized RX1, Cond.methodLink RX1 31 yX1_putSinceNever, Cond.instanceMethod yX1_putSinceNever, Cond.selects RX1 yX1_putSinceNever yX1_putSinceNever] ++ (v_X1_open ++ (v_X1_putSinceNever_2 ++ ([]))))
theorem k_X1_clear : GoodIn lw_tbl v_X1_clear := gd_c (List.mem_of_getElem? (i := 686) (by decide +kernel)) rfl (goodIn_app (gd_c (List.mem_of_getElem? (i := 687) (by decide +kernel)) rfl (gd_c (List.mem_of_getElem? (i := 688) (by decide +kernel)) rfl (gd_c (List.mem_of_getElem? (i := 689) (by decide +kernel)) rfl (gd_c (List.mem_of_getElem? (i := 133) (by decide +kernel)) rfl (gd_c (List.mem_of_getElem? (i := 175) (by decide +kernel)) rfl (gd_c (List.mem_of_getElem? (i := 177) (by decide +kernel)) rfl (gd_c (List.mem_of_getElem? (i := 0) (by decide +kernel)) rfl (gd_nil)))))))) (goodIn_app k_X1_open (goodIn_app k_X1_putSinceNever_2 (gd_nil))))
set_option maxHeartbeats 600000 in
set_option maxRecDepth 100000 in
theorem c_X1_clear (l : Launch) (dC : Nat → ClassId) (dI : Nat → Nat → Nat) (cB cI cJ cZ cP : ClassId) (h0 : Nat) (h1 : Nat) (h2 : Nat) (h3 : Nat) (sz : Nat) : Met l yX1_clear v_X1_clear ({ frames := 2, cells := 0, slots := 0, locals := 41 }) (va_Pc [.ref h0] (fun U => U.heap.size = sz ∧ va_P (dC, dI) vwCl [(h0, .inr (1, [.ref h1, .ref h2, .ref h3, .int 3, .int 0, .int 0])), (h1, .inl (cI, 360, .inl (upd (upd (upd (fun _ => 0) (0 : Int32).toNatClampNeg (-14)) (1 : Int32).toNatClampNeg 99) (2 : Int32).toNatClampNeg (-23))))] U.heap ∧ va_K (dC, dI) vwCl (ty5 cB cI cJ cZ cP) U ∧ va_D (fun _ => True) [(h0, .inr (1, [.ref h1, .ref h2, .ref h3, .int 3, .int 0, .int 0])), (h1, .inl (cI, 360, .inl (upd (upd (upd (fun _ => 0) (0 : Int32).toNatClampNeg (-14)) (1 : Int32).toNatClampNeg 99) (2 : Int32).toNatClampNeg (-23))))])) (va_Qv (fun _ : Unit => True) (fun _ t => va_P (dC, dI) vwCl [(h0, .inr (1, [.ref h1, .ref h2, .ref h3, .int 3, .int 0, .int 0])), (h1, .inl (cI, 360, .inl (upd (upd (upd (upd (upd (upd (fun _ => 0) (0 : Int32).toNatClampNeg (-14)) (1 : Int32).toNatClampNeg 99) (2 : Int32).toNatClampNeg (-23)) (0 : Int32).toNatClampNeg (-14)) (1 : Int32).toNatClampNeg 99) (2 : Int32).toNatClampNeg (-23))))] t.heap ∧ va_D (va_A [(h0, .inr (1, [.ref h1, .ref h2, .ref h3, .int 3, .int 0, .int 0])), (h1, .inl (cI, 360, .inl (upd (upd (upd (fun _ => 0) (0 : Int32).toNatClampNeg (-14)) (1 : Int32).toNatClampNeg 99) (2 : Int32).toNatClampNeg (-23))))] sz) [(h0, .inr (1, [.ref h1, .ref h2, .ref h3, .int 3, .int 0, .int 0])), (h1, .inl (cI, 360, .inl (upd (upd (upd (upd (upd (upd (fun _ => 0) (0 : Int32).toNatClampNeg (-14)) (1 : Int32).toNatClampNeg 99) (2 : Int32).toNatClampNeg (-23)) (0 : Int32).toNatClampNeg (-14)) (1 : Int32).toNatClampNeg 99) (2 : Int32).toNatClampNeg (-23))))]) (va_A [(h0, .inr (1, [.ref h1, .ref h2, .ref h3, .int 3, .int 0, .int 0])), (h1, .inl (cI, 360, .inl (upd (upd (upd (fun _ => 0) (0 : Int32).toNatClampNeg (-14)) (1 : Int32).toNatClampNeg 99) (2 : Int32).toNatClampNeg (-23))))] sz)) 0 0 (va_A [(h0, .inr (1, [.ref h1, .ref h2, .ref h3, .int 3, .int 0, .int 0])), (h1, .inl (cI, 360, .inl (upd (upd (upd (fun _ => 0) (0 : Int32).toNatClampNeg (-14)) (1 : Int32).toNatClampNeg 99) (2 : Int32).toNatClampNeg (-23))))] sz) := by
  refine Met.ofW (cc := cX1_clear) (maxL := 1) (ret := none) (by decide) rfl ?_
  intro p e s m args below meth c s₁ B hml hv
  obtain ⟨rfl, hsz, hP, hK, hD0⟩ := hv
  have hx := B.exec
  have hb := B.bytes
  have hr := B.returns
  have hts := atoms_spec (ws := v_X1_clear) B.pre
  have hown : s.vm.findClass RX1 = some m.cls := findClass_of_methodNamed B.named
  have hlocks := B.notSynchronized
  subst hsz
  have hD := hD0.self (sz := s.heap.size)
  generalize hAe : va_A [(h0, .inr (1, [.ref h1, .ref h2, .ref h3, .int 3, .int 0, .int 0])), (h1, .inl (cI, 360, .inl (upd (upd (upd (fun _ => 0) (0 : Int32).toNatClampNeg (-14)) (1 : Int32).toNatClampNeg 99) (2 : Int32).toNatClampNeg (-23))))] s.heap.size = A at hD ⊢
  have hA : ∀ q : Nat, s.heap.size ≤ q → A q := fun q h => by rw [← hAe]; exact Or.inr h
  have hP : va_P (dC, dI) vwCl [(h0, .inr (1, [.ref h1, .ref h2, .ref h3, .int 3, .int 0, .int 0])), (h1, .inl (cI, 360, .inl (upd (upd (upd (fun _ => 0) (0 : Int32).toNatClampNeg (-14)) (1 : Int32).toNatClampNeg 99) (2 : Int32).toNatClampNeg (-23))))] s.heap := hP
  have hl := lv_entry ([.ref h0]) (n := 1) (Nat.le_of_ble_eq_true rfl)
  rw [lg_entry_eq]
  generalize (lg_sl ([.ref h0]) ++ List.replicate (1 - (lg_sl ([.ref h0])).length) Slot.unset).toArray = ls at hl ⊢
  have hl : lv_has ls 1 [(0, .ref h0)] := hl
  refine W_gen (A := A) hP (fun H locs hP hS => ?_)
  refine lv_aload_n hx hb dX1_clear_0 rfl (lv_at hl 0 rfl) ?_
  have hPc := hP.sub (ws' := [(h0, .inr (1, [.ref h1, .ref h2, .ref h3, .int 3, .int 0, .int 0]))]) [0] rfl
  have hDc := hD.sub (ws' := [(h0, .inr (1, [.ref h1, .ref h2, .ref h3, .int 3, .int 0, .int 0]))]) [0] (by decide) rfl
  have hFc := va_free (wc := [(h0, .inr (1, [.ref h1, .ref h2, .ref h3, .int 3, .int 0, .int 0]))]) hD hS hA [0] rfl
  refine va_callv (va_runV (As := []) (rest := []) ⟨hx, hb, hml, hown, hts⟩ (c_X1_open l dC dI cB cI cJ cZ cP h0 h1 h2 h3 H.size) (cwV 0 hts (gd_V (List.mem_of_getElem? (i := 1) rfl) (List.mem_of_getElem? (i := 2) rfl) (List.mem_of_getElem? (i := 3) rfl) (List.mem_of_getElem? (i := 4) rfl) (gd_mono k_X1_open (fun _ h => List.mem_cons_of_mem _ (List.mem_append_right _ (List.mem_append_left _ h))))) rfl rfl rfl (by decide +kernel) ⟨Nat.le_of_ble_eq_true rfl, Nat.le_of_ble_eq_true rfl⟩) ⟨fun a U g mk q => by obtain ⟨q0, q1, qP, qK, qD⟩ := q; exact ⟨q0, q1, qP, va_K.moved (u := U) (U := U.calling g mk a) (Vm.Alike.refl U.vm) qK, qD⟩, va_recv hK hPc (ci := 1) (q0 := 0) rfl rfl, fun U hU hW => ⟨rfl, by rw [hU], by rw [hU]; exact hPc, va_K.moved hW.alike hK, hDc.weaken (fun _ _ _ _ => trivial)⟩⟩ rfl rfl hl.1 rfl (lv_room (Nat.le_of_ble_eq_true rfl)) dX1_clear_1 ⟨Nat.le_of_ble_eq_true rfl, Nat.le_of_ble_eq_true rfl⟩) hS (fun q _ h => hFc q h) hFc (fun u t H1 locs ht hvm hw hB hz1 hk1 hS => ?_)
  obtain ⟨hP1, hD1⟩ := hB
  rw [ht] at hP1
  obtain ⟨hP, hD⟩ := va_join (wr := [(h1, .inl (cI, 360, .inl (upd (upd (upd (fun _ => 0) (0 : Int32).toNatClampNeg (-14)) (1 : Int32).toNatClampNeg 99) (2 : Int32).toNatClampNeg (-23))))]) (w1 := [(h0, .inr (1, [.ref h1, .ref h2, .ref h3, .int 0, .int 0, .int 0]))]) hP hD [0] [1] rfl rfl (by decide) (by decide) hk1 hFc hP1 hD1
  generalize H1 = H at hP hS ⊢
  have hP : va_P (dC, dI) vwCl [(h1, .inl (cI, 360, .inl (upd (upd (upd (fun _ => 0) (0 : Int32).toNatClampNeg (-14)) (1 : Int32).toNatClampNeg 99) (2 : Int32).toNatClampNeg (-23)))), (h0, .inr (1, [.ref h1, .ref h2, .ref h3, .int 0, .int 0, .int 0]))] H := hP
  have hD : va_D A [(h1, .inl (cI, 360, .inl (upd (upd (upd (fun _ => 0) (0 : Int32).toNatClampNeg (-14)) (1 : Int32).toNatClampNeg 99) (2 : Int32).toNatClampNeg (-23)))), (h0, .inr (1, [.ref h1, .ref h2, .ref h3, .int 0, .int 0, .int 0]))] := hD
  refine lv_aload_n hx hb dX1_clear_4 rfl (lv_at hl 0 rfl) ?_
  have hPc := hP.sub (ws' := [(h1, .inl (cI, 360, .inl (upd (upd (upd (fun _ => 0) (0 : Int32).toNatClampNeg (-14)) (1 : Int32).toNatClampNeg 99) (2 : Int32).toNatClampNeg (-23)))), (h0, .inr (1, [.ref h1, .ref h2, .ref h3, .int 0, .int 0, .int 0]))]) [0, 1] rfl
  have hDc := hD.sub (ws' := [(h1, .inl (cI, 360, .inl (upd (upd (upd (fun _ => 0) (0 : Int32).toNatClampNeg (-14)) (1 : Int32).toNatClampNeg 99) (2 : Int32).toNatClampNeg (-23)))), (h0, .inr (1, [.ref h1, .ref h2, .ref h3, .int 0, .int 0, .int 0]))]) [0, 1] (by decide) rfl
  have hFc := va_free (wc := [(h1, .inl (cI, 360, .inl (upd (upd (upd (fun _ => 0) (0 : Int32).toNatClampNeg (-14)) (1 : Int32).toNatClampNeg 99) (2 : Int32).toNatClampNeg (-23)))), (h0, .inr (1, [.ref h1, .ref h2, .ref h3, .int 0, .int 0, .int 0]))]) hD hS hA [0, 1] rfl
  refine va_callv (va_runV (As := []) (rest := []) ⟨hx, hb, hml, hown, hts⟩ (c_X1_putSinceNever_2 l dC dI cB cI cJ cZ cP h0 h1 h2 h3 H.size) (cwV 0 hts (gd_V (List.mem_of_getElem? (i := 5) rfl) (List.mem_of_getElem? (i := 6) rfl) (List.mem_of_getElem? (i := 7) rfl) (List.mem_of_getElem? (i := 4) rfl) (gd_mono k_X1_putSinceNever_2 (fun _ h => List.mem_cons_of_mem _ (List.mem_append_right _ (List.mem_append_right _ (List.mem_append_left _ h)))))) rfl rfl rfl (by decide +kernel) ⟨Nat.le_of_ble_eq_true rfl, Nat.le_of_ble_eq_true rfl⟩) ⟨fun a U g mk q => by obtain ⟨q0, q1, qP, qK, qD⟩ := q; exact ⟨q0, q1, qP, va_K.moved (u := U) (U := U.calling g mk a) (Vm.Alike.refl U.vm) qK, qD⟩, va_recv hK hPc (ci := 1) (q0 := 1) rfl rfl, fun U hU hW => ⟨rfl, by rw [hU], by rw [hU]; exact hPc, va_K.moved hW.alike hK, hDc.weaken (fun _ _ _ _ => trivial)⟩⟩ rfl rfl hl.1 rfl (lv_room (Nat.le_of_ble_eq_true rfl)) dX1_clear_5 ⟨Nat.le_of_ble_eq_true rfl, Nat.le_of_ble_eq_true rfl⟩) hS (fun q _ h => hFc q h) hFc (fun u t H1 locs ht hvm hw hB hz1 hk1 hS => ?_)
  obtain ⟨hP1, hD1⟩ := hB
  rw [ht] at hP1
  obtain ⟨hP, hD⟩ := va_join (wr := []) (w1 := [(h1, .inl (cI, 360, .inl (upd (upd (upd (upd (upd (upd (fun _ => 0) (0 : Int32).toNatClampNeg (-14)) (1 : Int32).toNatClampNeg 99) (2 : Int32).toNatClampNeg (-23)) (0 : Int32).toNatClampNeg (-14)) (1 : Int32).toNatClampNeg 99) (2 : Int32).toNatClampNeg (-23)))), (h0, .inr (1, [.ref h1, .ref h2, .ref h3, .int 3, .int 0, .int 0]))]) hP hD [0, 1] [] rfl rfl (by decide) (by decide) hk1 hFc hP1 hD1
  generalize H1 = H at hP hS ⊢
  have hP : va_P (dC, dI) vwCl [(h1, .inl (cI, 360, .inl (upd (upd (upd (upd (upd (upd (fun _ => 0) (0 : Int32).toNatClampNeg (-14)) (1 : Int32).toNatClampNeg 99) (2 : Int32).toNatClampNeg (-23)) (0 : Int32).toNatClampNeg (-14)) (1 : Int32).toNatClampNeg 99) (2 : Int32).toNatClampNeg (-23)))), (h0, .inr (1, [.ref h1, .ref h2, .ref h3, .int 3, .int 0, .int 0]))] H := hP
  have hD : va_D A [(h1, .inl (cI, 360, .inl (upd (upd (upd (upd (upd (upd (fun _ => 0) (0 : Int32).toNatClampNeg (-14)) (1 : Int32).toNatClampNeg 99) (2 : Int32).toNatClampNeg (-23)) (0 : Int32).toNatClampNeg (-14)) (1 : Int32).toNatClampNeg 99) (2 : Int32).toNatClampNeg (-23)))), (h0, .inr (1, [.ref h1, .ref h2, .ref h3, .int 3, .int 0, .int 0]))] := hD
  have hP9 := hP.sub (ws' := [(h0, .inr (1, [.ref h1, .ref h2, .ref h3, .int 3, .int 0, .int 0])), (h1, .inl (cI, 360, .inl (upd (upd (upd (upd (upd (upd (fun _ => 0) (0 : Int32).toNatClampNeg (-14)) (1 : Int32).toNatClampNeg 99) (2 : Int32).toNatClampNeg (-23)) (0 : Int32).toNatClampNeg (-14)) (1 : Int32).toNatClampNeg 99) (2 : Int32).toNatClampNeg (-23))))]) [1, 0] rfl
  have hD9 := hD.sub (ws' := [(h0, .inr (1, [.ref h1, .ref h2, .ref h3, .int 3, .int 0, .int 0])), (h1, .inl (cI, 360, .inl (upd (upd (upd (upd (upd (upd (fun _ => 0) (0 : Int32).toNatClampNeg (-14)) (1 : Int32).toNatClampNeg 99) (2 : Int32).toNatClampNeg (-23)) (0 : Int32).toNatClampNeg (-14)) (1 : Int32).toNatClampNeg 99) (2 : Int32).toNatClampNeg (-23))))]) [1, 0] (by decide) rfl
  exact W.vret hx hb hr (fun t ht hW => ⟨⟨(), rfl, trivial, ⟨by rw [ht]; exact hP9, hD9⟩⟩, hS.F ht⟩) hS.2.2 dX1_clear_8
