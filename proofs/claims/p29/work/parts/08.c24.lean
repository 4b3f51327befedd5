def v_s_X7_through : List Cond := Cond.code yX7_through cX7_through 6 (some .int) :: ([Cond.methodLink RX7 91 yX7_aheadOf, Cond.instanceMethod yX7_aheadOf, Cond.selects RX7 yX7_aheadOf yX7_aheadOf, Cond.initialized RX7, Cond.fieldLink RX7 47 "MayRings$Ways" "sort" "I", Cond.fieldLink RX7 21 "MayRings$Ways" "pairCosts" "[I", Cond.fieldLink RX7 24 "MayRings$Ways" "placeCosts" "[I", Cond.methodLink RX7 56 yJ6_bitCount_0f7a4, Cond.static yJ6_bitCount_0f7a4, Cond.initialized RJ6, Cond.constant RX7 78 (1000000), Cond.methodLink RX7 106 yX7_seen, Cond.instanceMethod yX7_seen, Cond.selects RX7 yX7_seen yX7_seen] ++ (wsX70 ++ (v_s_X7_aheadOf ++ (v_s_J6_bitCount_0f7a4_b8 ++ (v_s_X7_seen ++ ([]))))))
theorem k_s_X7_through : GoodIn lw_tbl v_s_X7_through := gd_c (List.mem_of_getElem? (i := 969) (by decide +kernel)) rfl (goodIn_app (gd_c (List.mem_of_getElem? (i := 970) (by decide +kernel)) rfl (gd_c (List.mem_of_getElem? (i := 972) (by decide +kernel)) rfl (gd_c (List.mem_of_getElem? (i := 48) (by decide +kernel)) rfl (gd_c (List.mem_of_getElem? (i := 142) (by decide +kernel)) rfl (gd_c (List.mem_of_getElem? (i := 462) (by decide +kernel)) rfl (gd_c (List.mem_of_getElem? (i := 447) (by decide +kernel)) rfl (gd_c (List.mem_of_getElem? (i := 449) (by decide +kernel)) rfl (gd_c (List.mem_of_getElem? (i := 923) (by decide +kernel)) rfl (gd_c (List.mem_of_getElem? (i := 878) (by decide +kernel)) rfl (gd_c (List.mem_of_getElem? (i := 147) (by decide +kernel)) rfl (gd_c (List.mem_of_getElem? (i := 941) (by decide +kernel)) rfl (gd_c (List.mem_of_getElem? (i := 950) (by decide +kernel)) rfl (gd_c (List.mem_of_getElem? (i := 952) (by decide +kernel)) rfl (gd_c (List.mem_of_getElem? (i := 43) (by decide +kernel)) rfl (gd_nil))))))))))))))) (goodIn_app kfX7 (goodIn_app k_s_X7_aheadOf (goodIn_app k_s_J6_bitCount_0f7a4_b8 (goodIn_app k_s_X7_seen (gd_nil))))))
set_option maxHeartbeats 2000000 in
set_option maxRecDepth 100000 in
theorem c_s_X7_through (l : Launch) (dC : Nat → ClassId) (dI : Nat → Nat → Nat) (cB cI cJ cZ cP : ClassId) (h0 : Nat) (h1 : Nat) (h2 : Nat) (h3 : Nat) (h4 : Nat) (g3 : Nat → Int32) (h5 : Nat) (g4 : Nat → Int32) (h6 : Nat) (g5 : Nat → Int32) (a0 : Int32) (a1 : Int32) (a2 : Int32) (a3 : Int32) (a4 : Int32) (a5 : Int32) (ha5 : rg (0) (2) a5) (a6 : Int32) (a7 : Int32) (p0 : Int32) (hp0 : rg (0) (510) p0) (p1 : Int32) (hp1 : rg (0) (8) p1) (p2 : Int32) (hp2 : rg (0) (8) p2) (sz : Nat) : Met l yX7_through v_s_X7_through ({ frames := 1, cells := 0, slots := 0, locals := 22 }) (va_Pc [.ref h0, .int p0, .int p1, .int p2] (fun U => U.heap.size = sz ∧ va_P (dC, dI) vwCl [(h0, .inr (7, [.ref h1, .ref h2, .ref h3, .ref h4, .ref h5, .ref h6, .int a0, .int a1, .int a2, .int a3, .int a4, .int a5, .int a6, .int a7])), (h4, .inl (cI, 81, .inl g3)), (h5, .inl (cI, 81, .inl g4)), (h6, .inl (cI, 4608, .inl g5))] U.heap ∧ va_K (dC, dI) vwCl (ty5 cB cI cJ cZ cP) U ∧ va_D (fun _ => True) [(h0, .inr (7, [.ref h1, .ref h2, .ref h3, .ref h4, .ref h5, .ref h6, .int a0, .int a1, .int a2, .int a3, .int a4, .int a5, .int a6, .int a7])), (h4, .inl (cI, 81, .inl g3)), (h5, .inl (cI, 81, .inl g4)), (h6, .inl (cI, 4608, .inl g5))])) (va_Qi (fun (r : Int32) (u9 : Unit) => True) (fun u9 t => va_P (dC, dI) vwCl [(h0, .inr (7, [.ref h1, .ref h2, .ref h3, .ref h4, .ref h5, .ref h6, .int a0, .int a1, .int a2, .int a3, .int a4, .int a5, .int a6, .int a7])), (h4, .inl (cI, 81, .inl g3)), (h5, .inl (cI, 81, .inl g4)), (h6, .inl (cI, 4608, .inl g5))] t.heap ∧ va_D (va_A [(h0, .inr (7, [.ref h1, .ref h2, .ref h3, .ref h4, .ref h5, .ref h6, .int a0, .int a1, .int a2, .int a3, .int a4, .int a5, .int a6, .int a7])), (h4, .inl (cI, 81, .inl g3)), (h5, .inl (cI, 81, .inl g4)), (h6, .inl (cI, 4608, .inl g5))] sz) [(h0, .inr (7, [.ref h1, .ref h2, .ref h3, .ref h4, .ref h5, .ref h6, .int a0, .int a1, .int a2, .int a3, .int a4, .int a5, .int a6, .int a7])), (h4, .inl (cI, 81, .inl g3)), (h5, .inl (cI, 81, .inl g4)), (h6, .inl (cI, 4608, .inl g5))]) (va_A [(h0, .inr (7, [.ref h1, .ref h2, .ref h3, .ref h4, .ref h5, .ref h6, .int a0, .int a1, .int a2, .int a3, .int a4, .int a5, .int a6, .int a7])), (h4, .inl (cI, 81, .inl g3)), (h5, .inl (cI, 81, .inl g4)), (h6, .inl (cI, 4608, .inl g5))] sz)) 0 0 (va_A [(h0, .inr (7, [.ref h1, .ref h2, .ref h3, .ref h4, .ref h5, .ref h6, .int a0, .int a1, .int a2, .int a3, .int a4, .int a5, .int a6, .int a7])), (h4, .inl (cI, 81, .inl g3)), (h5, .inl (cI, 81, .inl g4)), (h6, .inl (cI, 4608, .inl g5))] sz) := by
  refine Met.ofW (cc := cX7_through) (maxL := 6) (ret := (some .int)) (by decide) rfl ?_
  intro p e s m args below meth c s₁ B hml hv
  obtain ⟨rfl, hsz, hP, hK, hD0⟩ := hv
  have hx := B.exec
  have hb := B.bytes
  have hr := B.returns
  have hts := atoms_spec (ws := v_s_X7_through) B.pre
  have hown : s.vm.findClass RX7 = some m.cls := findClass_of_methodNamed B.named
  have hlocks := B.notSynchronized
  have hinX7 : ∀ w ∈ wsX70, w ∈ v_s_X7_through := fun _ h => List.mem_cons_of_mem _ (List.mem_append_right _ (List.mem_append_left _ h))
  subst hsz
  have hD := hD0.self (sz := s.heap.size)
  generalize hAe : va_A [(h0, .inr (7, [.ref h1, .ref h2, .ref h3, .ref h4, .ref h5, .ref h6, .int a0, .int a1, .int a2, .int a3, .int a4, .int a5, .int a6, .int a7])), (h4, .inl (cI, 81, .inl g3)), (h5, .inl (cI, 81, .inl g4)), (h6, .inl (cI, 4608, .inl g5))] s.heap.size = A at hD ⊢
  have hA : ∀ q : Nat, s.heap.size ≤ q → A q := fun q h => by rw [← hAe]; exact Or.inr h
  have hP : va_P (dC, dI) vwCl [(h0, .inr (7, [.ref h1, .ref h2, .ref h3, .ref h4, .ref h5, .ref h6, .int a0, .int a1, .int a2, .int a3, .int a4, .int a5, .int a6, .int a7])), (h4, .inl (cI, 81, .inl g3)), (h5, .inl (cI, 81, .inl g4)), (h6, .inl (cI, 4608, .inl g5))] s.heap := hP
  have hl := lv_entry ([.ref h0, .int p0, .int p1, .int p2]) (n := 6) (Nat.le_of_ble_eq_true rfl)
  rw [lg_entry_eq]
  generalize (lg_sl ([.ref h0, .int p0, .int p1, .int p2]) ++ List.replicate (6 - (lg_sl ([.ref h0, .int p0, .int p1, .int p2])).length) Slot.unset).toArray = ls at hl ⊢
  have hl : lv_has ls 6 [(0, .ref h0), (1, .int p0), (2, .int p1), (3, .int p2)] := hl
  refine W_gen (A := A) hP (fun H locs hP hS => ?_)
  refine lv_aload_n hx hb dX7_through_0 rfl (lv_at hl 0 rfl) ?_
  refine lv_iload_n hx hb dX7_through_1 rfl (lv_at hl 1 rfl) ?_
  refine lv_iconst (v := 1) hx hb dX7_through_2 (by decide) ?_
  refine lv_iload_n hx hb dX7_through_3 rfl (lv_at hl 3 rfl) ?_
  refine lv_ishl hx hb dX7_through_4 ?_
  refine lv_topi (fun x_1 ex_1 => ?_)
  have hx_1 : rg (1) (256) x_1 := by rw [ex_1]; exact rg_mono (rg_shl1 8 (rg_mono hp2 (by decide) (by decide)) (by decide)) (by decide) (by decide)
  refine lv_ior hx hb dX7_through_5 ?_
  refine lv_topi (fun x_2 ex_2 => ?_)
  have hx_2 : rg (0) (511) x_2 := by rw [ex_2]; exact rg_mono (rg_or 9 (rg_mono hp0 (by decide) (by decide)) (rg_mono hx_1 (by decide) (by decide)) (by decide)) (by decide) (by decide)
  refine lv_iload_n hx hb dX7_through_6 rfl (lv_at hl 3 rfl) ?_
  have hPc := hP.sub (ws' := [(h0, .inr (7, [.ref h1, .ref h2, .ref h3, .ref h4, .ref h5, .ref h6, .int a0, .int a1, .int a2, .int a3, .int a4, .int a5, .int a6, .int a7])), (h6, .inl (cI, 4608, .inl g5))]) [0, 3] rfl
  have hDc := hD.sub (ws' := [(h0, .inr (7, [.ref h1, .ref h2, .ref h3, .ref h4, .ref h5, .ref h6, .int a0, .int a1, .int a2, .int a3, .int a4, .int a5, .int a6, .int a7])), (h6, .inl (cI, 4608, .inl g5))]) [0, 3] (by decide) rfl
  have hFc := va_free (wc := [(h0, .inr (7, [.ref h1, .ref h2, .ref h3, .ref h4, .ref h5, .ref h6, .int a0, .int a1, .int a2, .int a3, .int a4, .int a5, .int a6, .int a7])), (h6, .inl (cI, 4608, .inl g5))]) hD hS hA [0, 3] rfl
  refine va_calli (va_runV (As := [.int x_2, .int p2]) (rest := []) ⟨hx, hb, hml, hown, hts⟩ (c_s_X7_aheadOf l dC dI cB cI cJ cZ cP h0 h1 h2 h3 h4 h5 h6 g5 a0 a1 a2 a3 a4 a5 a6 a7 x_2 (rg_mono hx_2 (by decide) (by decide)) p2 (rg_mono hp2 (by decide) (by decide)) H.size) (cwV 2 hts (gd_V (List.mem_of_getElem? (i := 1) rfl) (List.mem_of_getElem? (i := 2) rfl) (List.mem_of_getElem? (i := 3) rfl) (List.mem_of_getElem? (i := 4) rfl) (gd_mono k_s_X7_aheadOf (fun _ h => List.mem_cons_of_mem _ (List.mem_append_right _ (List.mem_append_right _ (List.mem_append_left _ h)))))) rfl rfl rfl (by decide +kernel) ⟨Nat.le_of_ble_eq_true rfl, Nat.le_of_ble_eq_true rfl⟩) ⟨fun a U g mk q => by obtain ⟨q0, q1, qP, qK, qD⟩ := q; exact ⟨q0, q1, qP, va_K.moved (u := U) (U := U.calling g mk a) (Vm.Alike.refl U.vm) qK, qD⟩, va_recv hK hPc (ci := 7) (q0 := 0) rfl rfl, fun U hU hW => ⟨rfl, by rw [hU], by rw [hU]; exact hPc, va_K.moved hW.alike hK, hDc.weaken (fun _ _ _ _ => trivial)⟩⟩ rfl rfl hl.1 rfl (lv_room (Nat.le_of_ble_eq_true rfl)) dX7_through_7 ⟨Nat.le_of_ble_eq_true rfl, Nat.le_of_ble_eq_true rfl⟩) hS (fun q _ h => hFc q h) hFc (fun r_3 u t H1 locs ht hvm hw hB hz1 hk1 hS => ?_)
  obtain ⟨hP1, hD1⟩ := hB
  rw [ht] at hP1
  obtain ⟨hP, hD⟩ := va_join (wr := [(h4, .inl (cI, 81, .inl g3)), (h5, .inl (cI, 81, .inl g4))]) (w1 := [(h0, .inr (7, [.ref h1, .ref h2, .ref h3, .ref h4, .ref h5, .ref h6, .int a0, .int a1, .int a2, .int a3, .int a4, .int a5, .int a6, .int a7])), (h6, .inl (cI, 4608, .inl g5))]) hP hD [0, 3] [1, 2] rfl rfl (by decide) (by decide) hk1 hFc hP1 hD1
  generalize H1 = H at hP hS ⊢
  replace hP : va_P (dC, dI) vwCl [(h4, .inl (cI, 81, .inl g3)), (h5, .inl (cI, 81, .inl g4)), (h0, .inr (7, [.ref h1, .ref h2, .ref h3, .ref h4, .ref h5, .ref h6, .int a0, .int a1, .int a2, .int a3, .int a4, .int a5, .int a6, .int a7])), (h6, .inl (cI, 4608, .inl g5))] H := hP
  replace hD : va_D A [(h4, .inl (cI, 81, .inl g3)), (h5, .inl (cI, 81, .inl g4)), (h0, .inr (7, [.ref h1, .ref h2, .ref h3, .ref h4, .ref h5, .ref h6, .int a0, .int a1, .int a2, .int a3, .int a4, .int a5, .int a6, .int a7])), (h6, .inl (cI, 4608, .inl g5))] := hD
  refine lv_istore (lv' := [(4, .int r_3), (0, .ref h0), (1, .int p0), (2, .int p1), (3, .int p2)]) hx hb dX7_through_10 hl (by decide) rfl (fun ls hl => ?_)
  refine lv_aload_n hx hb dX7_through_12 rfl (lv_at hl 1 rfl) ?_
  refine va_get (D := (dC, dI)) (ci := 7) (v := .int a5) (C := RX7) (T := TX7) (N := 14) hx hb hts hinX7 hown hK hP 2 rfl rfl 11 (by decide) (hts (.fieldLink RX7 47 "MayRings$Ways" "sort" "I") (List.mem_of_getElem? (i := 5) rfl)) (fun _ h9 => h9) rfl dX7_through_13 ?_
  refine lv_if_ne (tgt := 22) hx hb dX7_through_16 (by decide) (fun c_4 => ?_) (fun c_4 => ?_)
  · skip
    have h_5 : rg (1) (2) a5 := by have ha := ha5; have hb_ := (rg_k (x := 0) (c := 0) (by decide)); simp only [rg, fa_lt, fa_le, fa_eq, (by decide : (0 : Int32).toInt = 0)] at ha hb_ c_4; simp only [rg]; omega
    refine lv_aload_n hx hb dX7_through_22 rfl (lv_at hl 1 rfl) ?_
    refine va_get (D := (dC, dI)) (ci := 7) (v := .int a5) (C := RX7) (T := TX7) (N := 14) hx hb hts hinX7 hown hK hP 2 rfl rfl 11 (by decide) (hts (.fieldLink RX7 47 "MayRings$Ways" "sort" "I") (List.mem_of_getElem? (i := 5) rfl)) (fun _ h9 => h9) rfl dX7_through_23 ?_
    refine lv_iconst (v := 2) hx hb dX7_through_26 (by decide) ?_
    refine lv_icmp_ne (tgt := 40) hx hb dX7_through_27 (by decide) (fun c_6 => ?_) (fun c_6 => ?_)
    · skip
      have h_7 : rg (1) (1) a5 := by have ha := h_5; have hb_ := (rg_k (x := 2) (c := 2) (by decide)); simp only [rg, fa_lt, fa_le, fa_eq, (by decide : (2 : Int32).toInt = 2)] at ha hb_ c_6; simp only [rg]; omega
      refine lv_aload_n hx hb dX7_through_40 rfl (lv_at hl 1 rfl) ?_
      refine va_get (D := (dC, dI)) (ci := 7) (v := .ref h4) (C := RX7) (T := TX7) (N := 14) hx hb hts hinX7 hown hK hP 2 rfl rfl 3 (by decide) (hts (.fieldLink RX7 21 "MayRings$Ways" "pairCosts" "[I") (List.mem_of_getElem? (i := 6) rfl)) (fun _ h9 => h9) rfl dX7_through_41 ?_
      refine lv_iload_n hx hb dX7_through_44 rfl (lv_at hl 3 rfl) ?_
      refine lv_bipush (v := 9) hx hb dX7_through_45 (by decide) ?_
      refine lv_imul hx hb dX7_through_47 ?_
      refine lv_topi (fun x_8 ex_8 => ?_)
      have hx_8 : rg (0) (72) x_8 := by rw [ex_8]; exact rg_mono (rg_mul hp1 (rg_k (x := 9) (c := 9) (by decide)) (by decide) (by decide) (by decide)) (by decide) (by decide)
      refine lv_iload_n hx hb dX7_through_48 rfl (lv_at hl 4 rfl) ?_
      refine lv_iadd hx hb dX7_through_49 ?_
      refine lv_topi (fun x_9 ex_9 => ?_)
      have hx_9 : rg (0) (80) x_9 := by rw [ex_9]; exact rg_mono (rg_add hx_8 hp2 (by decide) (by decide)) (by decide) (by decide)
      have qx_9 : x_9.toInt = x_8.toInt + p2.toInt := by rw [ex_9]; exact rg_addQ hx_8 hp2 (by decide) (by decide)
      refine va_iald hx hb hK hP 0 1 rfl rfl (rg_in (n := 81) (rg_mono hx_9 (by decide) (by decide))) dX7_through_50 ?_
      refine lv_topi (fun x_10 ex_10 => ?_)
      refine lv_aload_n hx hb dX7_through_51 rfl (lv_at hl 1 rfl) ?_
      refine va_get (D := (dC, dI)) (ci := 7) (v := .ref h5) (C := RX7) (T := TX7) (N := 14) hx hb hts hinX7 hown hK hP 2 rfl rfl 4 (by decide) (hts (.fieldLink RX7 24 "MayRings$Ways" "placeCosts" "[I") (List.mem_of_getElem? (i := 7) rfl)) (fun _ h9 => h9) rfl dX7_through_52 ?_
      refine lv_iload_n hx hb dX7_through_55 rfl (lv_at hl 4 rfl) ?_
      refine lv_bipush (v := 9) hx hb dX7_through_56 (by decide) ?_
      refine lv_imul hx hb dX7_through_58 ?_
      refine lv_topi (fun x_11 ex_11 => ?_)
      have hx_11 : rg (0) (72) x_11 := by rw [ex_11]; exact rg_mono (rg_mul hp2 (rg_k (x := 9) (c := 9) (by decide)) (by decide) (by decide) (by decide)) (by decide) (by decide)
      refine lv_iload_n hx hb dX7_through_59 rfl (lv_at hl 2 rfl) ?_
      have hPc := hP.sub (ws' := []) [] rfl
      have hDc := hD.sub (ws' := []) [] (by decide) rfl
      have hFc := va_free (wc := []) hD hS hA [] rfl
      refine va_calli (va_runS (As := [.int p0]) (rest := [.int x_11, .ref h5, .int x_10]) ⟨hx, hb, hml, hown, hts⟩ (c_s_J6_bitCount_0f7a4_b8 l dC dI cB cI cJ cZ cP p0 (rg_mono hp0 (by decide) (by decide)) H.size) (va_cwS 1 hts (gd_S (List.mem_of_getElem? (i := 8) rfl) (List.mem_of_getElem? (i := 9) rfl) (List.mem_of_getElem? (i := 10) rfl) (gd_mono k_s_J6_bitCount_0f7a4_b8 (fun _ h => List.mem_cons_of_mem _ (List.mem_append_right _ (List.mem_append_right _ (List.mem_append_right _ (List.mem_append_left _ h))))))) rfl rfl rfl (by decide +kernel) ⟨Nat.le_of_ble_eq_true rfl, Nat.le_of_ble_eq_true rfl⟩) ⟨fun a U g mk q => by obtain ⟨q0, q1, qP, qK, qD⟩ := q; exact ⟨q0, q1, qP, va_K.moved (u := U) (U := U.calling g mk a) (Vm.Alike.refl U.vm) qK, qD⟩, fun U hU hW => ⟨rfl, by rw [hU], by rw [hU]; exact hPc, va_K.moved hW.alike hK, hDc.weaken (fun _ _ _ _ => trivial)⟩⟩ rfl rfl hl.1 rfl (lv_room (Nat.le_of_ble_eq_true rfl)) dX7_through_60 ⟨Nat.le_of_ble_eq_true rfl, Nat.le_of_ble_eq_true rfl⟩) hS (fun q _ h => hFc q h) hFc (fun r_12 u t H1 locs ht hvm hw hB hz1 hk1 hS => ?_)
      obtain ⟨hu9, hw⟩ := hw
      rw [hu9] at hB
      clear hu9
      obtain ⟨k_13, hP1, hD1⟩ := hB
      rw [ht] at hP1
      obtain ⟨hP, hD⟩ := va_join (wr := [(h4, .inl (cI, 81, .inl g3)), (h5, .inl (cI, 81, .inl g4)), (h0, .inr (7, [.ref h1, .ref h2, .ref h3, .ref h4, .ref h5, .ref h6, .int a0, .int a1, .int a2, .int a3, .int a4, .int a5, .int a6, .int a7])), (h6, .inl (cI, 4608, .inl g5))]) (w1 := []) hP hD [] [0, 1, 2, 3] rfl rfl (by decide) (by decide) hk1 hFc hP1 hD1
      generalize H1 = H at hP hS ⊢
      replace hP : va_P (dC, dI) vwCl [(h4, .inl (cI, 81, .inl g3)), (h5, .inl (cI, 81, .inl g4)), (h0, .inr (7, [.ref h1, .ref h2, .ref h3, .ref h4, .ref h5, .ref h6, .int a0, .int a1, .int a2, .int a3, .int a4, .int a5, .int a6, .int a7])), (h6, .inl (cI, 4608, .inl g5))] H := hP
      replace hD : va_D A [(h4, .inl (cI, 81, .inl g3)), (h5, .inl (cI, 81, .inl g4)), (h0, .inr (7, [.ref h1, .ref h2, .ref h3, .ref h4, .ref h5, .ref h6, .int a0, .int a1, .int a2, .int a3, .int a4, .int a5, .int a6, .int a7])), (h6, .inl (cI, 4608, .inl g5))] := hD
      have hr_12 : rg (0) (8) r_12 := hw
      refine lv_iadd hx hb dX7_through_63 ?_
      refine lv_topi (fun x_14 ex_14 => ?_)
      have hx_14 : rg (0) (80) x_14 := by rw [ex_14]; exact rg_mono (rg_add hx_11 hr_12 (by decide) (by decide)) (by decide) (by decide)
      have qx_14 : x_14.toInt = x_11.toInt + r_12.toInt := by rw [ex_14]; exact rg_addQ hx_11 hr_12 (by decide) (by decide)
      refine va_iald hx hb hK hP 1 1 rfl rfl (rg_in (n := 81) (rg_mono hx_14 (by decide) (by decide))) dX7_through_64 ?_
      refine lv_topi (fun x_15 ex_15 => ?_)
      refine lv_iadd hx hb dX7_through_65 ?_
      refine lv_topi (fun x_16 ex_16 => ?_)
      refine lv_istore (lv' := [(5, .int x_16), (4, .int r_3), (0, .ref h0), (1, .int p0), (2, .int p1), (3, .int p2)]) hx hb dX7_through_66 hl (by decide) rfl (fun ls hl => ?_)
      refine lv_iload hx hb dX7_through_68 (lv_at hl 1 rfl) ?_
      refine lv_ldc (v := 1000000) hx hb hown (hts (.constant RX7 78 (1000000)) (List.mem_of_getElem? (i := 11) rfl)) dX7_through_70 ?_
      refine lv_icmp_lt (tgt := 80) hx hb dX7_through_72 (by decide) (fun c_17 => ?_) (fun c_17 => ?_)
      · skip
        have h_18 : rg (-2147483648) (999999) r_3 := by have ha := (rg_any r_3); have hb_ := (rg_k (x := 1000000) (c := 1000000) (by decide)); simp only [rg, fa_lt, fa_le, fa_eq, (by decide : (1000000 : Int32).toInt = 1000000)] at ha hb_ c_17; simp only [rg]; omega
        refine lv_iload hx hb dX7_through_80 (lv_at hl 1 rfl) ?_
        refine lv_iload hx hb dX7_through_82 (lv_at hl 0 rfl) ?_
        refine lv_iadd hx hb dX7_through_84 ?_
        refine lv_topi (fun x_19 ex_19 => ?_)
        have hP9 := hP.sub (ws' := [(h0, .inr (7, [.ref h1, .ref h2, .ref h3, .ref h4, .ref h5, .ref h6, .int a0, .int a1, .int a2, .int a3, .int a4, .int a5, .int a6, .int a7])), (h4, .inl (cI, 81, .inl g3)), (h5, .inl (cI, 81, .inl g4)), (h6, .inl (cI, 4608, .inl g5))]) [2, 0, 1, 3] rfl
        have hD9 := hD.sub (ws' := [(h0, .inr (7, [.ref h1, .ref h2, .ref h3, .ref h4, .ref h5, .ref h6, .int a0, .int a1, .int a2, .int a3, .int a4, .int a5, .int a6, .int a7])), (h4, .inl (cI, 81, .inl g3)), (h5, .inl (cI, 81, .inl g4)), (h6, .inl (cI, 4608, .inl g5))]) [2, 0, 1, 3] (by decide) rfl
        exact W.iret (v := x_19) hx hb hr (fun t ht hW => ⟨⟨x_19, (), rfl, trivial, ⟨by rw [ht]; exact hP9, hD9⟩⟩, hS.F ht⟩) hS.2.2 dX7_through_85
      · skip
        have h_20 : rg (1000000) (2147483647) r_3 := by have ha := (rg_any r_3); have hb_ := (rg_k (x := 1000000) (c := 1000000) (by decide)); simp only [rg, fa_lt, fa_le, fa_eq, (by decide : (1000000 : Int32).toInt = 1000000)] at ha hb_ c_17; simp only [rg]; omega
        refine lv_ldc (v := 1000000) hx hb hown (hts (.constant RX7 78 (1000000)) (List.mem_of_getElem? (i := 11) rfl)) dX7_through_75 ?_
        refine lv_goto (tgt := 85) hx hb dX7_through_77 (by decide) ?_
        have hP9 := hP.sub (ws' := [(h0, .inr (7, [.ref h1, .ref h2, .ref h3, .ref h4, .ref h5, .ref h6, .int a0, .int a1, .int a2, .int a3, .int a4, .int a5, .int a6, .int a7])), (h4, .inl (cI, 81, .inl g3)), (h5, .inl (cI, 81, .inl g4)), (h6, .inl (cI, 4608, .inl g5))]) [2, 0, 1, 3] rfl
        have hD9 := hD.sub (ws' := [(h0, .inr (7, [.ref h1, .ref h2, .ref h3, .ref h4, .ref h5, .ref h6, .int a0, .int a1, .int a2, .int a3, .int a4, .int a5, .int a6, .int a7])), (h4, .inl (cI, 81, .inl g3)), (h5, .inl (cI, 81, .inl g4)), (h6, .inl (cI, 4608, .inl g5))]) [2, 0, 1, 3] (by decide) rfl
        exact W.iret (v := 1000000) hx hb hr (fun t ht hW => ⟨⟨1000000, (), rfl, trivial, ⟨by rw [ht]; exact hP9, hD9⟩⟩, hS.F ht⟩) hS.2.2 dX7_through_85
    · skip
      have h_21 : rg (2) (2) a5 := by have ha := h_5; have hb_ := (rg_k (x := 2) (c := 2) (by decide)); simp only [rg, fa_lt, fa_le, fa_eq, (by decide : (2 : Int32).toInt = 2)] at ha hb_ c_6; simp only [rg]; omega
      refine lv_iload hx hb dX7_through_30 (lv_at hl 0 rfl) ?_
      refine lv_aload_n hx hb dX7_through_32 rfl (lv_at hl 1 rfl) ?_
      refine lv_iload_n hx hb dX7_through_33 rfl (lv_at hl 3 rfl) ?_
      refine lv_iload_n hx hb dX7_through_34 rfl (lv_at hl 4 rfl) ?_
      have hPc := hP.sub (ws' := [(h0, .inr (7, [.ref h1, .ref h2, .ref h3, .ref h4, .ref h5, .ref h6, .int a0, .int a1, .int a2, .int a3, .int a4, .int a5, .int a6, .int a7]))]) [2] rfl
      have hDc := hD.sub (ws' := [(h0, .inr (7, [.ref h1, .ref h2, .ref h3, .ref h4, .ref h5, .ref h6, .int a0, .int a1, .int a2, .int a3, .int a4, .int a5, .int a6, .int a7]))]) [2] (by decide) rfl
      have hFc := va_free (wc := [(h0, .inr (7, [.ref h1, .ref h2, .ref h3, .ref h4, .ref h5, .ref h6, .int a0, .int a1, .int a2, .int a3, .int a4, .int a5, .int a6, .int a7]))]) hD hS hA [2] rfl
      refine va_calli (va_runV (As := [.int p1, .int p2]) (rest := [.int r_3]) ⟨hx, hb, hml, hown, hts⟩ (c_s_X7_seen l dC dI cB cI cJ cZ cP h0 h1 h2 h3 h4 h5 h6 a0 a1 a2 a3 a4 a5 a6 a7 p1 (rg_mono hp1 (by decide) (by decide)) p2 (rg_mono hp2 (by decide) (by decide)) H.size) (cwV 2 hts (gd_V (List.mem_of_getElem? (i := 12) rfl) (List.mem_of_getElem? (i := 13) rfl) (List.mem_of_getElem? (i := 14) rfl) (List.mem_of_getElem? (i := 4) rfl) (gd_mono k_s_X7_seen (fun _ h => List.mem_cons_of_mem _ (List.mem_append_right _ (List.mem_append_right _ (List.mem_append_right _ (List.mem_append_right _ (List.mem_append_left _ h)))))))) rfl rfl rfl (by decide +kernel) ⟨Nat.le_of_ble_eq_true rfl, Nat.le_of_ble_eq_true rfl⟩) ⟨fun a U g mk q => by obtain ⟨q0, q1, qP, qK, qD⟩ := q; exact ⟨q0, q1, qP, va_K.moved (u := U) (U := U.calling g mk a) (Vm.Alike.refl U.vm) qK, qD⟩, va_recv hK hPc (ci := 7) (q0 := 0) rfl rfl, fun U hU hW => ⟨rfl, by rw [hU], by rw [hU]; exact hPc, va_K.moved hW.alike hK, hDc.weaken (fun _ _ _ _ => trivial)⟩⟩ rfl rfl hl.1 rfl (lv_room (Nat.le_of_ble_eq_true rfl)) dX7_through_35 ⟨Nat.le_of_ble_eq_true rfl, Nat.le_of_ble_eq_true rfl⟩) hS (fun q _ h => hFc q h) hFc (fun r_22 u t H1 locs ht hvm hw hB hz1 hk1 hS => ?_)
      obtain ⟨hP1, hD1⟩ := hB
      rw [ht] at hP1
      obtain ⟨hP, hD⟩ := va_join (wr := [(h4, .inl (cI, 81, .inl g3)), (h5, .inl (cI, 81, .inl g4)), (h6, .inl (cI, 4608, .inl g5))]) (w1 := [(h0, .inr (7, [.ref h1, .ref h2, .ref h3, .ref h4, .ref h5, .ref h6, .int a0, .int a1, .int a2, .int a3, .int a4, .int a5, .int a6, .int a7]))]) hP hD [2] [0, 1, 3] rfl rfl (by decide) (by decide) hk1 hFc hP1 hD1
      generalize H1 = H at hP hS ⊢
      replace hP : va_P (dC, dI) vwCl [(h4, .inl (cI, 81, .inl g3)), (h5, .inl (cI, 81, .inl g4)), (h6, .inl (cI, 4608, .inl g5)), (h0, .inr (7, [.ref h1, .ref h2, .ref h3, .ref h4, .ref h5, .ref h6, .int a0, .int a1, .int a2, .int a3, .int a4, .int a5, .int a6, .int a7]))] H := hP
      replace hD : va_D A [(h4, .inl (cI, 81, .inl g3)), (h5, .inl (cI, 81, .inl g4)), (h6, .inl (cI, 4608, .inl g5)), (h0, .inr (7, [.ref h1, .ref h2, .ref h3, .ref h4, .ref h5, .ref h6, .int a0, .int a1, .int a2, .int a3, .int a4, .int a5, .int a6, .int a7]))] := hD
      have hr_22 : rg (0) (256) r_22 := hw
      refine lv_ior hx hb dX7_through_38 ?_
      refine lv_topi (fun x_23 ex_23 => ?_)
      have hP9 := hP.sub (ws' := [(h0, .inr (7, [.ref h1, .ref h2, .ref h3, .ref h4, .ref h5, .ref h6, .int a0, .int a1, .int a2, .int a3, .int a4, .int a5, .int a6, .int a7])), (h4, .inl (cI, 81, .inl g3)), (h5, .inl (cI, 81, .inl g4)), (h6, .inl (cI, 4608, .inl g5))]) [3, 0, 1, 2] rfl
      have hD9 := hD.sub (ws' := [(h0, .inr (7, [.ref h1, .ref h2, .ref h3, .ref h4, .ref h5, .ref h6, .int a0, .int a1, .int a2, .int a3, .int a4, .int a5, .int a6, .int a7])), (h4, .inl (cI, 81, .inl g3)), (h5, .inl (cI, 81, .inl g4)), (h6, .inl (cI, 4608, .inl g5))]) [3, 0, 1, 2] (by decide) rfl
      exact W.iret (v := x_23) hx hb hr (fun t ht hW => ⟨⟨x_23, (), rfl, trivial, ⟨by rw [ht]; exact hP9, hD9⟩⟩, hS.F ht⟩) hS.2.2 dX7_through_39
  · skip
    have h_24 : rg (0) (0) a5 := by have ha := ha5; have hb_ := (rg_k (x := 0) (c := 0) (by decide)); simp only [rg, fa_lt, fa_le, fa_eq, (by decide : (0 : Int32).toInt = 0)] at ha hb_ c_4; simp only [rg]; omega
    refine lv_iload hx hb dX7_through_19 (lv_at hl 0 rfl) ?_
    have hP9 := hP.sub (ws' := [(h0, .inr (7, [.ref h1, .ref h2, .ref h3, .ref h4, .ref h5, .ref h6, .int a0, .int a1, .int a2, .int a3, .int a4, .int a5, .int a6, .int a7])), (h4, .inl (cI, 81, .inl g3)), (h5, .inl (cI, 81, .inl g4)), (h6, .inl (cI, 4608, .inl g5))]) [2, 0, 1, 3] rfl
    have hD9 := hD.sub (ws' := [(h0, .inr (7, [.ref h1, .ref h2, .ref h3, .ref h4, .ref h5, .ref h6, .int a0, .int a1, .int a2, .int a3, .int a4, .int a5, .int a6, .int a7])), (h4, .inl (cI, 81, .inl g3)), (h5, .inl (cI, 81, .inl g4)), (h6, .inl (cI, 4608, .inl g5))]) [2, 0, 1, 3] (by decide) rfl
    exact W.iret (v := r_3) hx hb hr (fun t ht hW => ⟨⟨r_3, (), rfl, trivial, ⟨by rw [ht]; exact hP9, hD9⟩⟩, hS.F ht⟩) hS.2.2 dX7_through_21
def v_s_X7_onward : List Cond := Cond.code yX7_onward cX7_onward 7 (some .int) :: ([Cond.methodLink RX7 83 yX7_nothing, Cond.instanceMethod yX7_nothing, Cond.selects RX7 yX7_nothing yX7_nothing, Cond.initialized RX7, Cond.methodLink RX7 109 yX7_openTo, Cond.instanceMethod yX7_openTo, Cond.selects RX7 yX7_openTo yX7_openTo, Cond.methodLink RX7 112 yX7_keepsLetters, Cond.instanceMethod yX7_keepsLetters, Cond.selects RX7 yX7_keepsLetters yX7_keepsLetters, Cond.methodLink RX7 116 yX7_through, Cond.instanceMethod yX7_through, Cond.selects RX7 yX7_through yX7_through, Cond.fieldLink RX7 47 "MayRings$Ways" "sort" "I", Cond.methodLink RX7 95 Lib.Math.min.name, Cond.static Lib.Math.min.name, Cond.initialized RJ9, Cond.code Lib.Math.min.name Lib.Math.min.code 2 (some .int)] ++ (wsX70 ++ (v_s_X7_nothing ++ (v_s_X7_openTo ++ (v_s_X7_keepsLetters ++ (v_s_X7_through ++ ([])))))))
theorem k_s_X7_onward : GoodIn lw_tbl v_s_X7_onward := gd_c (List.mem_of_getElem? (i := 957) (by decide +kernel)) rfl (goodIn_app (gd_c (List.mem_of_getElem? (i := 937) (by decide +kernel)) rfl (gd_c (List.mem_of_getElem? (i := 939) (by decide +kernel)) rfl (gd_c (List.mem_of_getElem? (i := 40) (by decide +kernel)) rfl (gd_c (List.mem_of_getElem? (i := 142) (by decide +kernel)) rfl (gd_c (List.mem_of_getElem? (i := 958) (by decide +kernel)) rfl (gd_c (List.mem_of_getElem? (i := 960) (by decide +kernel)) rfl (gd_c (List.mem_of_getElem? (i := 45) (by decide +kernel)) rfl (gd_c (List.mem_of_getElem? (i := 962) (by decide +kernel)) rfl (gd_c (List.mem_of_getElem? (i := 964) (by decide +kernel)) rfl (gd_c (List.mem_of_getElem? (i := 46) (by decide +kernel)) rfl (gd_c (List.mem_of_getElem? (i := 966) (by decide +kernel)) rfl (gd_c (List.mem_of_getElem? (i := 968) (by decide +kernel)) rfl (gd_c (List.mem_of_getElem? (i := 47) (by decide +kernel)) rfl (gd_c (List.mem_of_getElem? (i := 462) (by decide +kernel)) rfl (gd_c (List.mem_of_getElem? (i := 974) (by decide +kernel)) rfl (gd_c (List.mem_of_getElem? (i := 589) (by decide +kernel)) rfl (gd_c (List.mem_of_getElem? (i := 145) (by decide +kernel)) rfl (gd_c (List.mem_of_getElem? (i := 590) (by decide +kernel)) rfl (gd_nil))))))))))))))))))) (goodIn_app kfX7 (goodIn_app k_s_X7_nothing (goodIn_app k_s_X7_openTo (goodIn_app k_s_X7_keepsLetters (goodIn_app k_s_X7_through (gd_nil)))))))
set_option maxHeartbeats 2000000 in
set_option maxRecDepth 100000 in
theorem c_s_X7_onward (l : Launch) (dC : Nat → ClassId) (dI : Nat → Nat → Nat) (cB cI cJ cZ cP : ClassId) (h0 : Nat) (h1 : Nat) (g0 : Nat → Int32) (hg0 : rgA (0) (511) g0) (h2 : Nat) (g1 : Nat → Int32) (hg1 : rgA (0) (511) g1) (h3 : Nat) (g2 : Nat → Int32) (hg2 : rgA (0) (511) g2) (h4 : Nat) (g3 : Nat → Int32) (h5 : Nat) (g4 : Nat → Int32) (h6 : Nat) (g5 : Nat → Int32) (a0 : Int32) (a1 : Int32) (ha1 : rg (0) (9) a1) (a2 : Int32) (ha2 : rg (0) (1) a2) (a3 : Int32) (a4 : Int32) (a5 : Int32) (ha5 : rg (0) (2) a5) (a6 : Int32) (a7 : Int32) (ha7 : rg (0) (8) a7) (p0 : Int32) (hp0 : rg (0) (511) p0) (p1 : Int32) (hp1 : rg (0) (8) p1) (sz : Nat) : Met l yX7_onward v_s_X7_onward ({ frames := 2, cells := 0, slots := 0, locals := 47 }) (va_Pc [.ref h0, .int p0, .int p1] (fun U => U.heap.size = sz ∧ va_P (dC, dI) vwCl [(h0, .inr (7, [.ref h1, .ref h2, .ref h3, .ref h4, .ref h5, .ref h6, .int a0, .int a1, .int a2, .int a3, .int a4, .int a5, .int a6, .int a7])), (h1, .inl (cI, 9, .inl g0)), (h2, .inl (cI, 9, .inl g1)), (h3, .inl (cI, 9, .inl g2)), (h4, .inl (cI, 81, .inl g3)), (h5, .inl (cI, 81, .inl g4)), (h6, .inl (cI, 4608, .inl g5))] U.heap ∧ va_K (dC, dI) vwCl (ty5 cB cI cJ cZ cP) U ∧ va_D (fun _ => True) [(h0, .inr (7, [.ref h1, .ref h2, .ref h3, .ref h4, .ref h5, .ref h6, .int a0, .int a1, .int a2, .int a3, .int a4, .int a5, .int a6, .int a7])), (h1, .inl (cI, 9, .inl g0)), (h2, .inl (cI, 9, .inl g1)), (h3, .inl (cI, 9, .inl g2)), (h4, .inl (cI, 81, .inl g3)), (h5, .inl (cI, 81, .inl g4)), (h6, .inl (cI, 4608, .inl g5))])) (va_Qi (fun (r : Int32) (u9 : Unit) => True) (fun u9 t => va_P (dC, dI) vwCl [(h0, .inr (7, [.ref h1, .ref h2, .ref h3, .ref h4, .ref h5, .ref h6, .int a0, .int a1, .int a2, .int a3, .int a4, .int a5, .int a6, .int a7])), (h1, .inl (cI, 9, .inl g0)), (h2, .inl (cI, 9, .inl g1)), (h3, .inl (cI, 9, .inl g2)), (h4, .inl (cI, 81, .inl g3)), (h5, .inl (cI, 81, .inl g4)), (h6, .inl (cI, 4608, .inl g5))] t.heap ∧ va_D (va_A [(h0, .inr (7, [.ref h1, .ref h2, .ref h3, .ref h4, .ref h5, .ref h6, .int a0, .int a1, .int a2, .int a3, .int a4, .int a5, .int a6, .int a7])), (h1, .inl (cI, 9, .inl g0)), (h2, .inl (cI, 9, .inl g1)), (h3, .inl (cI, 9, .inl g2)), (h4, .inl (cI, 81, .inl g3)), (h5, .inl (cI, 81, .inl g4)), (h6, .inl (cI, 4608, .inl g5))] sz) [(h0, .inr (7, [.ref h1, .ref h2, .ref h3, .ref h4, .ref h5, .ref h6, .int a0, .int a1, .int a2, .int a3, .int a4, .int a5, .int a6, .int a7])), (h1, .inl (cI, 9, .inl g0)), (h2, .inl (cI, 9, .inl g1)), (h3, .inl (cI, 9, .inl g2)), (h4, .inl (cI, 81, .inl g3)), (h5, .inl (cI, 81, .inl g4)), (h6, .inl (cI, 4608, .inl g5))]) (va_A [(h0, .inr (7, [.ref h1, .ref h2, .ref h3, .ref h4, .ref h5, .ref h6, .int a0, .int a1, .int a2, .int a3, .int a4, .int a5, .int a6, .int a7])), (h1, .inl (cI, 9, .inl g0)), (h2, .inl (cI, 9, .inl g1)), (h3, .inl (cI, 9, .inl g2)), (h4, .inl (cI, 81, .inl g3)), (h5, .inl (cI, 81, .inl g4)), (h6, .inl (cI, 4608, .inl g5))] sz)) 0 0 (va_A [(h0, .inr (7, [.ref h1, .ref h2, .ref h3, .ref h4, .ref h5, .ref h6, .int a0, .int a1, .int a2, .int a3, .int a4, .int a5, .int a6, .int a7])), (h1, .inl (cI, 9, .inl g0)), (h2, .inl (cI, 9, .inl g1)), (h3, .inl (cI, 9, .inl g2)), (h4, .inl (cI, 81, .inl g3)), (h5, .inl (cI, 81, .inl g4)), (h6, .inl (cI, 4608, .inl g5))] sz) := by
  refine Met.ofW (cc := cX7_onward) (maxL := 7) (ret := (some .int)) (by decide) rfl ?_
  intro p e s m args below meth c s₁ B hml hv
  obtain ⟨rfl, hsz, hP, hK, hD0⟩ := hv
  have hx := B.exec
  have hb := B.bytes
  have hr := B.returns
  have hts := atoms_spec (ws := v_s_X7_onward) B.pre
  have hown : s.vm.findClass RX7 = some m.cls := findClass_of_methodNamed B.named
  have hlocks := B.notSynchronized
  have hinX7 : ∀ w ∈ wsX70, w ∈ v_s_X7_onward := fun _ h => List.mem_cons_of_mem _ (List.mem_append_right _ (List.mem_append_left _ h))
  subst hsz
  have hD := hD0.self (sz := s.heap.size)
  generalize hAe : va_A [(h0, .inr (7, [.ref h1, .ref h2, .ref h3, .ref h4, .ref h5, .ref h6, .int a0, .int a1, .int a2, .int a3, .int a4, .int a5, .int a6, .int a7])), (h1, .inl (cI, 9, .inl g0)), (h2, .inl (cI, 9, .inl g1)), (h3, .inl (cI, 9, .inl g2)), (h4, .inl (cI, 81, .inl g3)), (h5, .inl (cI, 81, .inl g4)), (h6, .inl (cI, 4608, .inl g5))] s.heap.size = A at hD ⊢
  have hA : ∀ q : Nat, s.heap.size ≤ q → A q := fun q h => by rw [← hAe]; exact Or.inr h
  have hP : va_P (dC, dI) vwCl [(h0, .inr (7, [.ref h1, .ref h2, .ref h3, .ref h4, .ref h5, .ref h6, .int a0, .int a1, .int a2, .int a3, .int a4, .int a5, .int a6, .int a7])), (h1, .inl (cI, 9, .inl g0)), (h2, .inl (cI, 9, .inl g1)), (h3, .inl (cI, 9, .inl g2)), (h4, .inl (cI, 81, .inl g3)), (h5, .inl (cI, 81, .inl g4)), (h6, .inl (cI, 4608, .inl g5))] s.heap := hP
  have hl := lv_entry ([.ref h0, .int p0, .int p1]) (n := 7) (Nat.le_of_ble_eq_true rfl)
  rw [lg_entry_eq]
  generalize (lg_sl ([.ref h0, .int p0, .int p1]) ++ List.replicate (7 - (lg_sl ([.ref h0, .int p0, .int p1])).length) Slot.unset).toArray = ls at hl ⊢
  have hl : lv_has ls 7 [(0, .ref h0), (1, .int p0), (2, .int p1)] := hl
  refine W_gen (A := A) hP (fun H locs hP hS => ?_)
  refine lv_aload_n hx hb dX7_onward_0 rfl (lv_at hl 0 rfl) ?_
  have hPc := hP.sub (ws' := [(h0, .inr (7, [.ref h1, .ref h2, .ref h3, .ref h4, .ref h5, .ref h6, .int a0, .int a1, .int a2, .int a3, .int a4, .int a5, .int a6, .int a7]))]) [0] rfl
  have hDc := hD.sub (ws' := [(h0, .inr (7, [.ref h1, .ref h2, .ref h3, .ref h4, .ref h5, .ref h6, .int a0, .int a1, .int a2, .int a3, .int a4, .int a5, .int a6, .int a7]))]) [0] (by decide) rfl
  have hFc := va_free (wc := [(h0, .inr (7, [.ref h1, .ref h2, .ref h3, .ref h4, .ref h5, .ref h6, .int a0, .int a1, .int a2, .int a3, .int a4, .int a5, .int a6, .int a7]))]) hD hS hA [0] rfl
  refine va_calli (va_runV (As := []) (rest := []) ⟨hx, hb, hml, hown, hts⟩ (c_s_X7_nothing l dC dI cB cI cJ cZ cP h0 h1 h2 h3 h4 h5 h6 a0 a1 a2 a3 a4 a5 (rg_mono ha5 (by decide) (by decide)) a6 a7 H.size) (cwV 0 hts (gd_V (List.mem_of_getElem? (i := 1) rfl) (List.mem_of_getElem? (i := 2) rfl) (List.mem_of_getElem? (i := 3) rfl) (List.mem_of_getElem? (i := 4) rfl) (gd_mono k_s_X7_nothing (fun _ h => List.mem_cons_of_mem _ (List.mem_append_right _ (List.mem_append_right _ (List.mem_append_left _ h)))))) rfl rfl rfl (by decide +kernel) ⟨Nat.le_of_ble_eq_true rfl, Nat.le_of_ble_eq_true rfl⟩) ⟨fun a U g mk q => by obtain ⟨q0, q1, qP, qK, qD⟩ := q; exact ⟨q0, q1, qP, va_K.moved (u := U) (U := U.calling g mk a) (Vm.Alike.refl U.vm) qK, qD⟩, va_recv hK hPc (ci := 7) (q0 := 0) rfl rfl, fun U hU hW => ⟨rfl, by rw [hU], by rw [hU]; exact hPc, va_K.moved hW.alike hK, hDc.weaken (fun _ _ _ _ => trivial)⟩⟩ rfl rfl hl.1 rfl (lv_room (Nat.le_of_ble_eq_true rfl)) dX7_onward_1 ⟨Nat.le_of_ble_eq_true rfl, Nat.le_of_ble_eq_true rfl⟩) hS (fun q _ h => hFc q h) hFc (fun r_1 u t H1 locs ht hvm hw hB hz1 hk1 hS => ?_)
  obtain ⟨hP1, hD1⟩ := hB
  rw [ht] at hP1
  obtain ⟨hP, hD⟩ := va_join (wr := [(h1, .inl (cI, 9, .inl g0)), (h2, .inl (cI, 9, .inl g1)), (h3, .inl (cI, 9, .inl g2)), (h4, .inl (cI, 81, .inl g3)), (h5, .inl (cI, 81, .inl g4)), (h6, .inl (cI, 4608, .inl g5))]) (w1 := [(h0, .inr (7, [.ref h1, .ref h2, .ref h3, .ref h4, .ref h5, .ref h6, .int a0, .int a1, .int a2, .int a3, .int a4, .int a5, .int a6, .int a7]))]) hP hD [0] [1, 2, 3, 4, 5, 6] rfl rfl (by decide) (by decide) hk1 hFc hP1 hD1
  generalize H1 = H at hP hS ⊢
  replace hP : va_P (dC, dI) vwCl [(h1, .inl (cI, 9, .inl g0)), (h2, .inl (cI, 9, .inl g1)), (h3, .inl (cI, 9, .inl g2)), (h4, .inl (cI, 81, .inl g3)), (h5, .inl (cI, 81, .inl g4)), (h6, .inl (cI, 4608, .inl g5)), (h0, .inr (7, [.ref h1, .ref h2, .ref h3, .ref h4, .ref h5, .ref h6, .int a0, .int a1, .int a2, .int a3, .int a4, .int a5, .int a6, .int a7]))] H := hP
  replace hD : va_D A [(h1, .inl (cI, 9, .inl g0)), (h2, .inl (cI, 9, .inl g1)), (h3, .inl (cI, 9, .inl g2)), (h4, .inl (cI, 81, .inl g3)), (h5, .inl (cI, 81, .inl g4)), (h6, .inl (cI, 4608, .inl g5)), (h0, .inr (7, [.ref h1, .ref h2, .ref h3, .ref h4, .ref h5, .ref h6, .int a0, .int a1, .int a2, .int a3, .int a4, .int a5, .int a6, .int a7]))] := hD
  have hr_1 : rg (-1) (1000000) r_1 := hw
  refine lv_istore_n (lv' := [(3, .int r_1), (0, .ref h0), (1, .int p0), (2, .int p1)]) hx hb dX7_onward_4 rfl hl (by decide) rfl (fun ls hl => ?_)
  refine lv_aload_n hx hb dX7_onward_5 rfl (lv_at hl 1 rfl) ?_
  refine lv_iload_n hx hb dX7_onward_6 rfl (lv_at hl 2 rfl) ?_
  refine lv_iload_n hx hb dX7_onward_7 rfl (lv_at hl 3 rfl) ?_
  have hPc := hP.sub (ws' := [(h0, .inr (7, [.ref h1, .ref h2, .ref h3, .ref h4, .ref h5, .ref h6, .int a0, .int a1, .int a2, .int a3, .int a4, .int a5, .int a6, .int a7])), (h1, .inl (cI, 9, .inl g0)), (h2, .inl (cI, 9, .inl g1))]) [6, 0, 1] rfl
  have hDc := hD.sub (ws' := [(h0, .inr (7, [.ref h1, .ref h2, .ref h3, .ref h4, .ref h5, .ref h6, .int a0, .int a1, .int a2, .int a3, .int a4, .int a5, .int a6, .int a7])), (h1, .inl (cI, 9, .inl g0)), (h2, .inl (cI, 9, .inl g1))]) [6, 0, 1] (by decide) rfl
  have hFc := va_free (wc := [(h0, .inr (7, [.ref h1, .ref h2, .ref h3, .ref h4, .ref h5, .ref h6, .int a0, .int a1, .int a2, .int a3, .int a4, .int a5, .int a6, .int a7])), (h1, .inl (cI, 9, .inl g0)), (h2, .inl (cI, 9, .inl g1))]) hD hS hA [6, 0, 1] rfl
  refine va_calli (va_runV (As := [.int p0, .int p1]) (rest := []) ⟨hx, hb, hml, hown, hts⟩ (c_s_X7_openTo l dC dI cB cI cJ cZ cP h0 h1 g0 hg0 h2 g1 hg1 h3 h4 h5 h6 a0 a1 (rg_mono ha1 (by decide) (by decide)) a2 a3 a4 a5 a6 a7 p0 (rg_mono hp0 (by decide) (by decide)) p1 (rg_mono hp1 (by decide) (by decide)) H.size) (cwV 2 hts (gd_V (List.mem_of_getElem? (i := 5) rfl) (List.mem_of_getElem? (i := 6) rfl) (List.mem_of_getElem? (i := 7) rfl) (List.mem_of_getElem? (i := 4) rfl) (gd_mono k_s_X7_openTo (fun _ h => List.mem_cons_of_mem _ (List.mem_append_right _ (List.mem_append_right _ (List.mem_append_right _ (List.mem_append_left _ h))))))) rfl rfl rfl (by decide +kernel) ⟨Nat.le_of_ble_eq_true rfl, Nat.le_of_ble_eq_true rfl⟩) ⟨fun a U g mk q => by obtain ⟨q0, q1, qP, qK, qD⟩ := q; exact ⟨q0, q1, qP, va_K.moved (u := U) (U := U.calling g mk a) (Vm.Alike.refl U.vm) qK, qD⟩, va_recv hK hPc (ci := 7) (q0 := 0) rfl rfl, fun U hU hW => ⟨rfl, by rw [hU], by rw [hU]; exact hPc, va_K.moved hW.alike hK, hDc.weaken (fun _ _ _ _ => trivial)⟩⟩ rfl rfl hl.1 rfl (lv_room (Nat.le_of_ble_eq_true rfl)) dX7_onward_8 ⟨Nat.le_of_ble_eq_true rfl, Nat.le_of_ble_eq_true rfl⟩) hS (fun q _ h => hFc q h) hFc (fun r_2 u t H1 locs ht hvm hw hB hz1 hk1 hS => ?_)
  obtain ⟨hP1, hD1⟩ := hB
  rw [ht] at hP1
  obtain ⟨hP, hD⟩ := va_join (wr := [(h3, .inl (cI, 9, .inl g2)), (h4, .inl (cI, 81, .inl g3)), (h5, .inl (cI, 81, .inl g4)), (h6, .inl (cI, 4608, .inl g5))]) (w1 := [(h0, .inr (7, [.ref h1, .ref h2, .ref h3, .ref h4, .ref h5, .ref h6, .int a0, .int a1, .int a2, .int a3, .int a4, .int a5, .int a6, .int a7])), (h1, .inl (cI, 9, .inl g0)), (h2, .inl (cI, 9, .inl g1))]) hP hD [6, 0, 1] [2, 3, 4, 5] rfl rfl (by decide) (by decide) hk1 hFc hP1 hD1
  generalize H1 = H at hP hS ⊢
  replace hP : va_P (dC, dI) vwCl [(h3, .inl (cI, 9, .inl g2)), (h4, .inl (cI, 81, .inl g3)), (h5, .inl (cI, 81, .inl g4)), (h6, .inl (cI, 4608, .inl g5)), (h0, .inr (7, [.ref h1, .ref h2, .ref h3, .ref h4, .ref h5, .ref h6, .int a0, .int a1, .int a2, .int a3, .int a4, .int a5, .int a6, .int a7])), (h1, .inl (cI, 9, .inl g0)), (h2, .inl (cI, 9, .inl g1))] H := hP
  replace hD : va_D A [(h3, .inl (cI, 9, .inl g2)), (h4, .inl (cI, 81, .inl g3)), (h5, .inl (cI, 81, .inl g4)), (h6, .inl (cI, 4608, .inl g5)), (h0, .inr (7, [.ref h1, .ref h2, .ref h3, .ref h4, .ref h5, .ref h6, .int a0, .int a1, .int a2, .int a3, .int a4, .int a5, .int a6, .int a7])), (h1, .inl (cI, 9, .inl g0)), (h2, .inl (cI, 9, .inl g1))] := hD
  have hr_2 : rg (0) (511) r_2 := hw.1
  have kr_2_0 : rg (1) (511) r_2 → rg (0) (510) p0 := hw.2
  refine lv_istore (lv' := [(4, .int r_2), (3, .int r_1), (0, .ref h0), (1, .int p0), (2, .int p1)]) hx hb dX7_onward_11 hl (by decide) rfl (fun ls hl => ?_)
  refine lv_iconst (v := 0) hx hb dX7_onward_13 (by decide) ?_
  refine lv_istore (lv' := [(5, .int 0), (4, .int r_2), (3, .int r_1), (0, .ref h0), (1, .int p0), (2, .int p1)]) hx hb dX7_onward_14 hl (by decide) rfl (fun ls hl => ?_)
  refine W_loopM (σ := Int32 × Int32) (fun u H locs ls => va_P (dC, dI) vwCl [(h3, .inl (cI, 9, .inl g2)), (h4, .inl (cI, 81, .inl g3)), (h5, .inl (cI, 81, .inl g4)), (h6, .inl (cI, 4608, .inl g5)), (h0, .inr (7, [.ref h1, .ref h2, .ref h3, .ref h4, .ref h5, .ref h6, .int a0, .int a1, .int a2, .int a3, .int a4, .int a5, .int a6, .int a7])), (h1, .inl (cI, 9, .inl g0)), (h2, .inl (cI, 9, .inl g1))] H ∧ va_D A [(h3, .inl (cI, 9, .inl g2)), (h4, .inl (cI, 81, .inl g3)), (h5, .inl (cI, 81, .inl g4)), (h6, .inl (cI, 4608, .inl g5)), (h0, .inr (7, [.ref h1, .ref h2, .ref h3, .ref h4, .ref h5, .ref h6, .int a0, .int a1, .int a2, .int a3, .int a4, .int a5, .int a6, .int a7])), (h1, .inl (cI, 9, .inl g0)), (h2, .inl (cI, 9, .inl g1))] ∧ va_S A s.heap H locs ∧ lv_has ls 7 [(5, .int u.1), (4, .int r_2), (3, .int u.2), (0, .ref h0), (1, .int p0), (2, .int p1)] ∧ rg (0) (9) u.1) (fun u => ((9) - u.1.toInt).toNat) 16 [] ?_ (0, r_1) H locs ls ⟨hP, hD, hS, hl, (rg_mono (rg_k (x := 0) (c := 0) (by decide)) (by decide) (by decide))⟩
  rintro ⟨x_265, x_266⟩ H locs ls ⟨hP, hD, hS, hl, hx_265⟩ ih_297
  replace hP : va_P (dC, dI) vwCl [(h3, .inl (cI, 9, .inl g2)), (h4, .inl (cI, 81, .inl g3)), (h5, .inl (cI, 81, .inl g4)), (h6, .inl (cI, 4608, .inl g5)), (h0, .inr (7, [.ref h1, .ref h2, .ref h3, .ref h4, .ref h5, .ref h6, .int a0, .int a1, .int a2, .int a3, .int a4, .int a5, .int a6, .int a7])), (h1, .inl (cI, 9, .inl g0)), (h2, .inl (cI, 9, .inl g1))] H := hP
  replace hD : va_D A [(h3, .inl (cI, 9, .inl g2)), (h4, .inl (cI, 81, .inl g3)), (h5, .inl (cI, 81, .inl g4)), (h6, .inl (cI, 4608, .inl g5)), (h0, .inr (7, [.ref h1, .ref h2, .ref h3, .ref h4, .ref h5, .ref h6, .int a0, .int a1, .int a2, .int a3, .int a4, .int a5, .int a6, .int a7])), (h1, .inl (cI, 9, .inl g0)), (h2, .inl (cI, 9, .inl g1))] := hD
  replace hl : lv_has ls 7 [(5, .int x_265), (4, .int r_2), (3, .int x_266), (0, .ref h0), (1, .int p0), (2, .int p1)] := hl
  replace hx_265 : rg (0) (9) x_265 := hx_265
  refine lv_iload hx hb dX7_onward_16 (lv_at hl 0 rfl) ?_
  refine lv_bipush (v := 9) hx hb dX7_onward_18 (by decide) ?_
  refine lv_icmp_ge (tgt := 121) hx hb dX7_onward_20 (by decide) (fun c_298 => ?_) (fun c_298 => ?_)
  · skip
    have h_299 : rg (9) (9) x_265 := by have ha := hx_265; have hb_ := (rg_k (x := 9) (c := 9) (by decide)); simp only [rg, fa_lt, fa_le, fa_eq, (by decide : (9 : Int32).toInt = 9)] at ha hb_ c_298; simp only [rg]; omega
    refine lv_iload_n hx hb dX7_onward_121 rfl (lv_at hl 2 rfl) ?_
    have hP9 := hP.sub (ws' := [(h0, .inr (7, [.ref h1, .ref h2, .ref h3, .ref h4, .ref h5, .ref h6, .int a0, .int a1, .int a2, .int a3, .int a4, .int a5, .int a6, .int a7])), (h1, .inl (cI, 9, .inl g0)), (h2, .inl (cI, 9, .inl g1)), (h3, .inl (cI, 9, .inl g2)), (h4, .inl (cI, 81, .inl g3)), (h5, .inl (cI, 81, .inl g4)), (h6, .inl (cI, 4608, .inl g5))]) [4, 5, 6, 0, 1, 2, 3] rfl
    have hD9 := hD.sub (ws' := [(h0, .inr (7, [.ref h1, .ref h2, .ref h3, .ref h4, .ref h5, .ref h6, .int a0, .int a1, .int a2, .int a3, .int a4, .int a5, .int a6, .int a7])), (h1, .inl (cI, 9, .inl g0)), (h2, .inl (cI, 9, .inl g1)), (h3, .inl (cI, 9, .inl g2)), (h4, .inl (cI, 81, .inl g3)), (h5, .inl (cI, 81, .inl g4)), (h6, .inl (cI, 4608, .inl g5))]) [4, 5, 6, 0, 1, 2, 3] (by decide) rfl
    exact W.iret (v := x_266) hx hb hr (fun t ht hW => ⟨⟨x_266, (), rfl, trivial, ⟨by rw [ht]; exact hP9, hD9⟩⟩, hS.F ht⟩) hS.2.2 dX7_onward_122
  · skip
    have h_300 : rg (0) (8) x_265 := by have ha := hx_265; have hb_ := (rg_k (x := 9) (c := 9) (by decide)); simp only [rg, fa_lt, fa_le, fa_eq, (by decide : (9 : Int32).toInt = 9)] at ha hb_ c_298; simp only [rg]; omega
    refine lv_iload hx hb dX7_onward_23 (lv_at hl 1 rfl) ?_
    refine lv_iload hx hb dX7_onward_25 (lv_at hl 0 rfl) ?_
    refine lv_ishr hx hb dX7_onward_27 ?_
    refine lv_topi (fun x_301 ex_301 => ?_)
    have hx_301 : rg (0) (511) x_301 := by rw [ex_301]; exact rg_mono (rg_shr (b := 511) (rg_mono hr_2 (by decide) (by decide))) (by decide) (by decide)
    have kx_301_0 : rg 1 2147483647 x_301 → rg 1 (511) r_2 := fun hq => rg_shrP hr_2 (ex_301 ▸ hq)
    refine lv_if_eq (tgt := 121) hx hb dX7_onward_28 (by decide) (fun c_302 => ?_) (fun c_302 => ?_)
    · skip
      have h_303 : rg (0) (0) x_301 := by have ha := hx_301; have hb_ := (rg_k (x := 0) (c := 0) (by decide)); simp only [rg, fa_lt, fa_le, fa_eq, (by decide : (0 : Int32).toInt = 0)] at ha hb_ c_302; simp only [rg]; omega
      refine lv_iload_n hx hb dX7_onward_121 rfl (lv_at hl 2 rfl) ?_
      have hP9 := hP.sub (ws' := [(h0, .inr (7, [.ref h1, .ref h2, .ref h3, .ref h4, .ref h5, .ref h6, .int a0, .int a1, .int a2, .int a3, .int a4, .int a5, .int a6, .int a7])), (h1, .inl (cI, 9, .inl g0)), (h2, .inl (cI, 9, .inl g1)), (h3, .inl (cI, 9, .inl g2)), (h4, .inl (cI, 81, .inl g3)), (h5, .inl (cI, 81, .inl g4)), (h6, .inl (cI, 4608, .inl g5))]) [4, 5, 6, 0, 1, 2, 3] rfl
      have hD9 := hD.sub (ws' := [(h0, .inr (7, [.ref h1, .ref h2, .ref h3, .ref h4, .ref h5, .ref h6, .int a0, .int a1, .int a2, .int a3, .int a4, .int a5, .int a6, .int a7])), (h1, .inl (cI, 9, .inl g0)), (h2, .inl (cI, 9, .inl g1)), (h3, .inl (cI, 9, .inl g2)), (h4, .inl (cI, 81, .inl g3)), (h5, .inl (cI, 81, .inl g4)), (h6, .inl (cI, 4608, .inl g5))]) [4, 5, 6, 0, 1, 2, 3] (by decide) rfl
      exact W.iret (v := x_266) hx hb hr (fun t ht hW => ⟨⟨x_266, (), rfl, trivial, ⟨by rw [ht]; exact hP9, hD9⟩⟩, hS.F ht⟩) hS.2.2 dX7_onward_122
    · skip
      have h_304 : rg (1) (511) x_301 := by have ha := hx_301; have hb_ := (rg_k (x := 0) (c := 0) (by decide)); simp only [rg, fa_lt, fa_le, fa_eq, (by decide : (0 : Int32).toInt = 0)] at ha hb_ c_302; simp only [rg]; omega
      have h_305 : rg (1) (511) r_2 := rg_meet hr_2 (kx_301_0 (rg_mono h_304 (by decide) (by decide))) (by decide) (by decide)
      have h_306 : rg (0) (510) p0 := rg_meet hp0 (kr_2_0 (rg_mono h_305 (by decide) (by decide))) (by decide) (by decide)
      refine lv_iload hx hb dX7_onward_31 (lv_at hl 1 rfl) ?_
      refine lv_iload hx hb dX7_onward_33 (lv_at hl 0 rfl) ?_
      refine lv_ishr hx hb dX7_onward_35 ?_
      refine tp_v (.int x_301) (congrArg Value.int (ex_301.symm)) ?_
      refine lv_iconst (v := 1) hx hb dX7_onward_36 (by decide) ?_
      refine lv_iand hx hb dX7_onward_37 ?_
      refine lv_topi (fun x_307 ex_307 => ?_)
      have hx_307 : rg (0) (1) x_307 := by rw [ex_307]; exact rg_mono (rg_andr (b := 1) (rg_mono (rg_k (x := 1) (c := 1) (by decide)) (by decide) (by decide))) (by decide) (by decide)
      refine lv_iconst (v := 1) hx hb dX7_onward_38 (by decide) ?_
      refine lv_icmp_ne (tgt := 115) hx hb dX7_onward_39 (by decide) (fun c_308 => ?_) (fun c_308 => ?_)
      · skip
        have h_309 : rg (0) (0) x_307 := by have ha := hx_307; have hb_ := (rg_k (x := 1) (c := 1) (by decide)); simp only [rg, fa_lt, fa_le, fa_eq, (by decide : (1 : Int32).toInt = 1)] at ha hb_ c_308; simp only [rg]; omega
        obtain ⟨x_310, ex_310⟩ : ∃ y : Int32, y = x_265 + Int32.ofInt (1) := ⟨_, rfl⟩
        have hx_310 : rg (1) (9) x_310 := by rw [ex_310]; exact rg_mono (rg_add h_300 (rg_k (x := Int32.ofInt (1)) (c := 1) (by decide)) (by decide) (by decide)) (by decide) (by decide)
        have qx_310 : x_310.toInt = x_265.toInt + (1) := by rw [ex_310]; exact rg_addE h_300 (rg_k (x := Int32.ofInt (1)) (c := 1) (by decide)) (by decide) (by decide) (by decide)
        refine lv_iinc (v := x_310) (lv' := [(5, .int x_310), (4, .int r_2), (3, .int x_266), (0, .ref h0), (1, .int p0), (2, .int p1)]) hx hb dX7_onward_115 hl (k := 0) rfl (ex_310.symm) (by decide) rfl (fun ls hl => ?_)
        clear ex_310
        refine lv_goto (tgt := 16) hx hb dX7_onward_118 (by decide) ?_
        exact ih_297 (x_310, x_266) H locs ls ⟨hP.sub (ws' := [(h3, .inl (cI, 9, .inl g2)), (h4, .inl (cI, 81, .inl g3)), (h5, .inl (cI, 81, .inl g4)), (h6, .inl (cI, 4608, .inl g5)), (h0, .inr (7, [.ref h1, .ref h2, .ref h3, .ref h4, .ref h5, .ref h6, .int a0, .int a1, .int a2, .int a3, .int a4, .int a5, .int a6, .int a7])), (h1, .inl (cI, 9, .inl g0)), (h2, .inl (cI, 9, .inl g1))]) [0, 1, 2, 3, 4, 5, 6] rfl, hD.sub (ws' := [(h3, .inl (cI, 9, .inl g2)), (h4, .inl (cI, 81, .inl g3)), (h5, .inl (cI, 81, .inl g4)), (h6, .inl (cI, 4608, .inl g5)), (h0, .inr (7, [.ref h1, .ref h2, .ref h3, .ref h4, .ref h5, .ref h6, .int a0, .int a1, .int a2, .int a3, .int a4, .int a5, .int a6, .int a7])), (h1, .inl (cI, 9, .inl g0)), (h2, .inl (cI, 9, .inl g1))]) [0, 1, 2, 3, 4, 5, 6] (by decide) rfl, hS, lv_sub hl [0, 1, 2, 3, 4, 5] rfl, (rg_mono hx_310 (by decide) (by decide))⟩ (by show ((9) - x_310.toInt).toNat < ((9) - x_265.toInt).toNat; have ha := h_300; simp only [rg] at ha; omega)
      · skip
        have h_311 : rg (1) (1) x_307 := by have ha := hx_307; have hb_ := (rg_k (x := 1) (c := 1) (by decide)); simp only [rg, fa_lt, fa_le, fa_eq, (by decide : (1 : Int32).toInt = 1)] at ha hb_ c_308; simp only [rg]; omega
        refine lv_aload_n hx hb dX7_onward_42 rfl (lv_at hl 3 rfl) ?_
        refine lv_iload_n hx hb dX7_onward_43 rfl (lv_at hl 4 rfl) ?_
        refine lv_iload_n hx hb dX7_onward_44 rfl (lv_at hl 5 rfl) ?_
        refine lv_iload hx hb dX7_onward_45 (lv_at hl 0 rfl) ?_
        have hPc := hP.sub (ws' := [(h0, .inr (7, [.ref h1, .ref h2, .ref h3, .ref h4, .ref h5, .ref h6, .int a0, .int a1, .int a2, .int a3, .int a4, .int a5, .int a6, .int a7])), (h3, .inl (cI, 9, .inl g2))]) [4, 0] rfl
        have hDc := hD.sub (ws' := [(h0, .inr (7, [.ref h1, .ref h2, .ref h3, .ref h4, .ref h5, .ref h6, .int a0, .int a1, .int a2, .int a3, .int a4, .int a5, .int a6, .int a7])), (h3, .inl (cI, 9, .inl g2))]) [4, 0] (by decide) rfl
        have hFc := va_free (wc := [(h0, .inr (7, [.ref h1, .ref h2, .ref h3, .ref h4, .ref h5, .ref h6, .int a0, .int a1, .int a2, .int a3, .int a4, .int a5, .int a6, .int a7])), (h3, .inl (cI, 9, .inl g2))]) hD hS hA [4, 0] rfl
        refine va_calli (va_runV (As := [.int p0, .int p1, .int x_265]) (rest := []) ⟨hx, hb, hml, hown, hts⟩ (c_s_X7_keepsLetters l dC dI cB cI cJ cZ cP h0 h1 h2 h3 g2 hg2 h4 h5 h6 a0 a1 a2 (rg_mono ha2 (by decide) (by decide)) a3 a4 a5 a6 a7 (rg_mono ha7 (by decide) (by decide)) p0 (rg_mono h_306 (by decide) (by decide)) p1 (rg_mono hp1 (by decide) (by decide)) x_265 (rg_mono h_300 (by decide) (by decide)) H.size) (cwV 3 hts (gd_V (List.mem_of_getElem? (i := 8) rfl) (List.mem_of_getElem? (i := 9) rfl) (List.mem_of_getElem? (i := 10) rfl) (List.mem_of_getElem? (i := 4) rfl) (gd_mono k_s_X7_keepsLetters (fun _ h => List.mem_cons_of_mem _ (List.mem_append_right _ (List.mem_append_right _ (List.mem_append_right _ (List.mem_append_right _ (List.mem_append_left _ h)))))))) rfl rfl rfl (by decide +kernel) ⟨Nat.le_of_ble_eq_true rfl, Nat.le_of_ble_eq_true rfl⟩) ⟨fun a U g mk q => by obtain ⟨q0, q1, qP, qK, qD⟩ := q; exact ⟨q0, q1, qP, va_K.moved (u := U) (U := U.calling g mk a) (Vm.Alike.refl U.vm) qK, qD⟩, va_recv hK hPc (ci := 7) (q0 := 0) rfl rfl, fun U hU hW => ⟨rfl, by rw [hU], by rw [hU]; exact hPc, va_K.moved hW.alike hK, hDc.weaken (fun _ _ _ _ => trivial)⟩⟩ rfl rfl hl.1 rfl (lv_room (Nat.le_of_ble_eq_true rfl)) dX7_onward_47 ⟨Nat.le_of_ble_eq_true rfl, Nat.le_of_ble_eq_true rfl⟩) hS (fun q _ h => hFc q h) hFc (fun r_312 u t H1 locs ht hvm hw hB hz1 hk1 hS => ?_)
        obtain ⟨hP1, hD1⟩ := hB
        rw [ht] at hP1
        obtain ⟨hP, hD⟩ := va_join (wr := [(h4, .inl (cI, 81, .inl g3)), (h5, .inl (cI, 81, .inl g4)), (h6, .inl (cI, 4608, .inl g5)), (h1, .inl (cI, 9, .inl g0)), (h2, .inl (cI, 9, .inl g1))]) (w1 := [(h0, .inr (7, [.ref h1, .ref h2, .ref h3, .ref h4, .ref h5, .ref h6, .int a0, .int a1, .int a2, .int a3, .int a4, .int a5, .int a6, .int a7])), (h3, .inl (cI, 9, .inl g2))]) hP hD [4, 0] [1, 2, 3, 5, 6] rfl rfl (by decide) (by decide) hk1 hFc hP1 hD1
        generalize H1 = H at hP hS ⊢
        replace hP : va_P (dC, dI) vwCl [(h4, .inl (cI, 81, .inl g3)), (h5, .inl (cI, 81, .inl g4)), (h6, .inl (cI, 4608, .inl g5)), (h1, .inl (cI, 9, .inl g0)), (h2, .inl (cI, 9, .inl g1)), (h0, .inr (7, [.ref h1, .ref h2, .ref h3, .ref h4, .ref h5, .ref h6, .int a0, .int a1, .int a2, .int a3, .int a4, .int a5, .int a6, .int a7])), (h3, .inl (cI, 9, .inl g2))] H := hP
        replace hD : va_D A [(h4, .inl (cI, 81, .inl g3)), (h5, .inl (cI, 81, .inl g4)), (h6, .inl (cI, 4608, .inl g5)), (h1, .inl (cI, 9, .inl g0)), (h2, .inl (cI, 9, .inl g1)), (h0, .inr (7, [.ref h1, .ref h2, .ref h3, .ref h4, .ref h5, .ref h6, .int a0, .int a1, .int a2, .int a3, .int a4, .int a5, .int a6, .int a7])), (h3, .inl (cI, 9, .inl g2))] := hD
        have hr_312 : rg (0) (1) r_312 := hw
        refine lv_if_eq (tgt := 115) hx hb dX7_onward_50 (by decide) (fun c_313 => ?_) (fun c_313 => ?_)
        · skip
          have h_314 : rg (0) (0) r_312 := by have ha := hr_312; have hb_ := (rg_k (x := 0) (c := 0) (by decide)); simp only [rg, fa_lt, fa_le, fa_eq, (by decide : (0 : Int32).toInt = 0)] at ha hb_ c_313; simp only [rg]; omega
          obtain ⟨x_315, ex_315⟩ : ∃ y : Int32, y = x_265 + Int32.ofInt (1) := ⟨_, rfl⟩
          have hx_315 : rg (1) (9) x_315 := by rw [ex_315]; exact rg_mono (rg_add h_300 (rg_k (x := Int32.ofInt (1)) (c := 1) (by decide)) (by decide) (by decide)) (by decide) (by decide)
          have qx_315 : x_315.toInt = x_265.toInt + (1) := by rw [ex_315]; exact rg_addE h_300 (rg_k (x := Int32.ofInt (1)) (c := 1) (by decide)) (by decide) (by decide) (by decide)
          refine lv_iinc (v := x_315) (lv' := [(5, .int x_315), (4, .int r_2), (3, .int x_266), (0, .ref h0), (1, .int p0), (2, .int p1)]) hx hb dX7_onward_115 hl (k := 0) rfl (ex_315.symm) (by decide) rfl (fun ls hl => ?_)
          clear ex_315
          refine lv_goto (tgt := 16) hx hb dX7_onward_118 (by decide) ?_
          exact ih_297 (x_315, x_266) H locs ls ⟨hP.sub (ws' := [(h3, .inl (cI, 9, .inl g2)), (h4, .inl (cI, 81, .inl g3)), (h5, .inl (cI, 81, .inl g4)), (h6, .inl (cI, 4608, .inl g5)), (h0, .inr (7, [.ref h1, .ref h2, .ref h3, .ref h4, .ref h5, .ref h6, .int a0, .int a1, .int a2, .int a3, .int a4, .int a5, .int a6, .int a7])), (h1, .inl (cI, 9, .inl g0)), (h2, .inl (cI, 9, .inl g1))]) [6, 0, 1, 2, 5, 3, 4] rfl, hD.sub (ws' := [(h3, .inl (cI, 9, .inl g2)), (h4, .inl (cI, 81, .inl g3)), (h5, .inl (cI, 81, .inl g4)), (h6, .inl (cI, 4608, .inl g5)), (h0, .inr (7, [.ref h1, .ref h2, .ref h3, .ref h4, .ref h5, .ref h6, .int a0, .int a1, .int a2, .int a3, .int a4, .int a5, .int a6, .int a7])), (h1, .inl (cI, 9, .inl g0)), (h2, .inl (cI, 9, .inl g1))]) [6, 0, 1, 2, 5, 3, 4] (by decide) rfl, hS, lv_sub hl [0, 1, 2, 3, 4, 5] rfl, (rg_mono hx_315 (by decide) (by decide))⟩ (by show ((9) - x_315.toInt).toNat < ((9) - x_265.toInt).toNat; have ha := h_300; simp only [rg] at ha; omega)
        · skip
          have h_316 : rg (1) (1) r_312 := by have ha := hr_312; have hb_ := (rg_k (x := 0) (c := 0) (by decide)); simp only [rg, fa_lt, fa_le, fa_eq, (by decide : (0 : Int32).toInt = 0)] at ha hb_ c_313; simp only [rg]; omega
          refine lv_aload_n hx hb dX7_onward_53 rfl (lv_at hl 3 rfl) ?_
          refine lv_iload_n hx hb dX7_onward_54 rfl (lv_at hl 4 rfl) ?_
          refine lv_iload_n hx hb dX7_onward_55 rfl (lv_at hl 5 rfl) ?_
          refine lv_iload hx hb dX7_onward_56 (lv_at hl 0 rfl) ?_
          have hPc := hP.sub (ws' := [(h0, .inr (7, [.ref h1, .ref h2, .ref h3, .ref h4, .ref h5, .ref h6, .int a0, .int a1, .int a2, .int a3, .int a4, .int a5, .int a6, .int a7])), (h4, .inl (cI, 81, .inl g3)), (h5, .inl (cI, 81, .inl g4)), (h6, .inl (cI, 4608, .inl g5))]) [5, 0, 1, 2] rfl
          have hDc := hD.sub (ws' := [(h0, .inr (7, [.ref h1, .ref h2, .ref h3, .ref h4, .ref h5, .ref h6, .int a0, .int a1, .int a2, .int a3, .int a4, .int a5, .int a6, .int a7])), (h4, .inl (cI, 81, .inl g3)), (h5, .inl (cI, 81, .inl g4)), (h6, .inl (cI, 4608, .inl g5))]) [5, 0, 1, 2] (by decide) rfl
          have hFc := va_free (wc := [(h0, .inr (7, [.ref h1, .ref h2, .ref h3, .ref h4, .ref h5, .ref h6, .int a0, .int a1, .int a2, .int a3, .int a4, .int a5, .int a6, .int a7])), (h4, .inl (cI, 81, .inl g3)), (h5, .inl (cI, 81, .inl g4)), (h6, .inl (cI, 4608, .inl g5))]) hD hS hA [5, 0, 1, 2] rfl
          refine va_calli (va_runV (As := [.int p0, .int p1, .int x_265]) (rest := []) ⟨hx, hb, hml, hown, hts⟩ (c_s_X7_through l dC dI cB cI cJ cZ cP h0 h1 h2 h3 h4 g3 h5 g4 h6 g5 a0 a1 a2 a3 a4 a5 (rg_mono ha5 (by decide) (by decide)) a6 a7 p0 (rg_mono h_306 (by decide) (by decide)) p1 (rg_mono hp1 (by decide) (by decide)) x_265 (rg_mono h_300 (by decide) (by decide)) H.size) (cwV 3 hts (gd_V (List.mem_of_getElem? (i := 11) rfl) (List.mem_of_getElem? (i := 12) rfl) (List.mem_of_getElem? (i := 13) rfl) (List.mem_of_getElem? (i := 4) rfl) (gd_mono k_s_X7_through (fun _ h => List.mem_cons_of_mem _ (List.mem_append_right _ (List.mem_append_right _ (List.mem_append_right _ (List.mem_append_right _ (List.mem_append_right _ (List.mem_append_left _ h))))))))) rfl rfl rfl (by decide +kernel) ⟨Nat.le_of_ble_eq_true rfl, Nat.le_of_ble_eq_true rfl⟩) ⟨fun a U g mk q => by obtain ⟨q0, q1, qP, qK, qD⟩ := q; exact ⟨q0, q1, qP, va_K.moved (u := U) (U := U.calling g mk a) (Vm.Alike.refl U.vm) qK, qD⟩, va_recv hK hPc (ci := 7) (q0 := 0) rfl rfl, fun U hU hW => ⟨rfl, by rw [hU], by rw [hU]; exact hPc, va_K.moved hW.alike hK, hDc.weaken (fun _ _ _ _ => trivial)⟩⟩ rfl rfl hl.1 rfl (lv_room (Nat.le_of_ble_eq_true rfl)) dX7_onward_58 ⟨Nat.le_of_ble_eq_true rfl, Nat.le_of_ble_eq_true rfl⟩) hS (fun q _ h => hFc q h) hFc (fun r_317 u t H1 locs ht hvm hw hB hz1 hk1 hS => ?_)
          obtain ⟨hP1, hD1⟩ := hB
          rw [ht] at hP1
          obtain ⟨hP, hD⟩ := va_join (wr := [(h1, .inl (cI, 9, .inl g0)), (h2, .inl (cI, 9, .inl g1)), (h3, .inl (cI, 9, .inl g2))]) (w1 := [(h0, .inr (7, [.ref h1, .ref h2, .ref h3, .ref h4, .ref h5, .ref h6, .int a0, .int a1, .int a2, .int a3, .int a4, .int a5, .int a6, .int a7])), (h4, .inl (cI, 81, .inl g3)), (h5, .inl (cI, 81, .inl g4)), (h6, .inl (cI, 4608, .inl g5))]) hP hD [5, 0, 1, 2] [3, 4, 6] rfl rfl (by decide) (by decide) hk1 hFc hP1 hD1
          generalize H1 = H at hP hS ⊢
          replace hP : va_P (dC, dI) vwCl [(h1, .inl (cI, 9, .inl g0)), (h2, .inl (cI, 9, .inl g1)), (h3, .inl (cI, 9, .inl g2)), (h0, .inr (7, [.ref h1, .ref h2, .ref h3, .ref h4, .ref h5, .ref h6, .int a0, .int a1, .int a2, .int a3, .int a4, .int a5, .int a6, .int a7])), (h4, .inl (cI, 81, .inl g3)), (h5, .inl (cI, 81, .inl g4)), (h6, .inl (cI, 4608, .inl g5))] H := hP
          replace hD : va_D A [(h1, .inl (cI, 9, .inl g0)), (h2, .inl (cI, 9, .inl g1)), (h3, .inl (cI, 9, .inl g2)), (h0, .inr (7, [.ref h1, .ref h2, .ref h3, .ref h4, .ref h5, .ref h6, .int a0, .int a1, .int a2, .int a3, .int a4, .int a5, .int a6, .int a7])), (h4, .inl (cI, 81, .inl g3)), (h5, .inl (cI, 81, .inl g4)), (h6, .inl (cI, 4608, .inl g5))] := hD
          refine lv_istore (lv' := [(6, .int r_317), (5, .int x_265), (4, .int r_2), (3, .int x_266), (0, .ref h0), (1, .int p0), (2, .int p1)]) hx hb dX7_onward_61 hl (by decide) rfl (fun ls hl => ?_)
          refine lv_aload_n hx hb dX7_onward_63 rfl (lv_at hl 4 rfl) ?_
          refine va_get (D := (dC, dI)) (ci := 7) (v := .int a5) (C := RX7) (T := TX7) (N := 14) hx hb hts hinX7 hown hK hP 3 rfl rfl 11 (by decide) (hts (.fieldLink RX7 47 "MayRings$Ways" "sort" "I") (List.mem_of_getElem? (i := 14) rfl)) (fun _ h9 => h9) rfl dX7_onward_64 ?_
          by_cases c_318 : a5 = 0
          · skip
            refine tp_v (.int 0) (congrArg Value.int (c_318)) ?_
            refine lv_lookup (off := 25) (tgt := 92) hx hb dX7_onward_67 (by decide) (by decide) (by decide) ?_
            have h_319 : rg (0) (0) a5 := by have ha := ha5; have hb_ := (rg_k (x := 0) (c := 0) (by decide)); simp only [rg, fa_lt, fa_le, fa_eq, (by decide : (0 : Int32).toInt = 0)] at ha hb_ c_318; simp only [rg]; omega
            refine lv_iload_n hx hb dX7_onward_92 rfl (lv_at hl 3 rfl) ?_
            refine lv_iload hx hb dX7_onward_93 (lv_at hl 0 rfl) ?_
            refine lv_iadd hx hb dX7_onward_95 ?_
            refine lv_topi (fun x_320 ex_320 => ?_)
            refine lv_istore_n (lv' := [(3, .int x_320), (6, .int r_317), (5, .int x_265), (4, .int r_2), (0, .ref h0), (1, .int p0), (2, .int p1)]) hx hb dX7_onward_96 rfl hl (by decide) rfl (fun ls hl => ?_)
            refine lv_goto (tgt := 115) hx hb dX7_onward_97 (by decide) ?_
            obtain ⟨x_321, ex_321⟩ : ∃ y : Int32, y = x_265 + Int32.ofInt (1) := ⟨_, rfl⟩
            have hx_321 : rg (1) (9) x_321 := by rw [ex_321]; exact rg_mono (rg_add h_300 (rg_k (x := Int32.ofInt (1)) (c := 1) (by decide)) (by decide) (by decide)) (by decide) (by decide)
            have qx_321 : x_321.toInt = x_265.toInt + (1) := by rw [ex_321]; exact rg_addE h_300 (rg_k (x := Int32.ofInt (1)) (c := 1) (by decide)) (by decide) (by decide) (by decide)
            refine lv_iinc (v := x_321) (lv' := [(5, .int x_321), (3, .int x_320), (6, .int r_317), (4, .int r_2), (0, .ref h0), (1, .int p0), (2, .int p1)]) hx hb dX7_onward_115 hl (k := 2) rfl (ex_321.symm) (by decide) rfl (fun ls hl => ?_)
            clear ex_321
            refine lv_goto (tgt := 16) hx hb dX7_onward_118 (by decide) ?_
            exact ih_297 (x_321, x_320) H locs ls ⟨hP.sub (ws' := [(h3, .inl (cI, 9, .inl g2)), (h4, .inl (cI, 81, .inl g3)), (h5, .inl (cI, 81, .inl g4)), (h6, .inl (cI, 4608, .inl g5)), (h0, .inr (7, [.ref h1, .ref h2, .ref h3, .ref h4, .ref h5, .ref h6, .int a0, .int a1, .int a2, .int a3, .int a4, .int a5, .int a6, .int a7])), (h1, .inl (cI, 9, .inl g0)), (h2, .inl (cI, 9, .inl g1))]) [2, 4, 5, 6, 3, 0, 1] rfl, hD.sub (ws' := [(h3, .inl (cI, 9, .inl g2)), (h4, .inl (cI, 81, .inl g3)), (h5, .inl (cI, 81, .inl g4)), (h6, .inl (cI, 4608, .inl g5)), (h0, .inr (7, [.ref h1, .ref h2, .ref h3, .ref h4, .ref h5, .ref h6, .int a0, .int a1, .int a2, .int a3, .int a4, .int a5, .int a6, .int a7])), (h1, .inl (cI, 9, .inl g0)), (h2, .inl (cI, 9, .inl g1))]) [2, 4, 5, 6, 3, 0, 1] (by decide) rfl, hS, lv_sub hl [0, 3, 1, 4, 5, 6] rfl, (rg_mono hx_321 (by decide) (by decide))⟩ (by show ((9) - x_321.toInt).toNat < ((9) - x_265.toInt).toNat; have ha := h_300; simp only [rg] at ha; omega)
          by_cases c_322 : a5 = 1
          · skip
            refine tp_v (.int 1) (congrArg Value.int (c_322)) ?_
            refine lv_lookup (off := 33) (tgt := 100) hx hb dX7_onward_67 (by decide) (by decide) (by decide) ?_
            have h_323 : rg (1) (1) a5 := by have ha := ha5; have hb_ := (rg_k (x := 1) (c := 1) (by decide)); simp only [rg, fa_lt, fa_le, fa_eq, (by decide : (1 : Int32).toInt = 1)] at ha hb_ c_322; simp only [rg]; omega
            refine lv_iload_n hx hb dX7_onward_100 rfl (lv_at hl 3 rfl) ?_
            refine lv_iload hx hb dX7_onward_101 (lv_at hl 0 rfl) ?_
            refine va_mmin hx hb (by rw [hml]; exact hl.1.symm) hown (hts (.methodLink RX7 95 Lib.Math.min.name) (List.mem_of_getElem? (i := 15) rfl)) (hts (.static Lib.Math.min.name) (List.mem_of_getElem? (i := 16) rfl)) (hts (.initialized RJ9) (List.mem_of_getElem? (i := 17) rfl)) (hts (.code Lib.Math.min.name Lib.Math.min.code 2 (some .int)) (List.mem_of_getElem? (i := 18) rfl)) (Nat.le_of_ble_eq_true rfl) (Nat.le_of_ble_eq_true rfl) (Nat.le_of_ble_eq_true rfl) (Nat.le_of_ble_eq_true rfl) dX7_onward_103 ?_
            refine lv_topi (fun x_324 ex_324 => ?_)
            have hx_324 : rg (-2147483648) (2147483647) x_324 := by rw [ex_324]; exact rg_mono (rg_min (rg_any x_266) (rg_any r_317)) (by decide) (by decide)
            clear ex_324
            refine lv_istore_n (lv' := [(3, .int x_324), (6, .int r_317), (5, .int x_265), (4, .int r_2), (0, .ref h0), (1, .int p0), (2, .int p1)]) hx hb dX7_onward_106 rfl hl (by decide) rfl (fun ls hl => ?_)
            refine lv_goto (tgt := 115) hx hb dX7_onward_107 (by decide) ?_
            obtain ⟨x_325, ex_325⟩ : ∃ y : Int32, y = x_265 + Int32.ofInt (1) := ⟨_, rfl⟩
            have hx_325 : rg (1) (9) x_325 := by rw [ex_325]; exact rg_mono (rg_add h_300 (rg_k (x := Int32.ofInt (1)) (c := 1) (by decide)) (by decide) (by decide)) (by decide) (by decide)
            have qx_325 : x_325.toInt = x_265.toInt + (1) := by rw [ex_325]; exact rg_addE h_300 (rg_k (x := Int32.ofInt (1)) (c := 1) (by decide)) (by decide) (by decide) (by decide)
            refine lv_iinc (v := x_325) (lv' := [(5, .int x_325), (3, .int x_324), (6, .int r_317), (4, .int r_2), (0, .ref h0), (1, .int p0), (2, .int p1)]) hx hb dX7_onward_115 hl (k := 2) rfl (ex_325.symm) (by decide) rfl (fun ls hl => ?_)
            clear ex_325
            refine lv_goto (tgt := 16) hx hb dX7_onward_118 (by decide) ?_
            exact ih_297 (x_325, x_324) H locs ls ⟨hP.sub (ws' := [(h3, .inl (cI, 9, .inl g2)), (h4, .inl (cI, 81, .inl g3)), (h5, .inl (cI, 81, .inl g4)), (h6, .inl (cI, 4608, .inl g5)), (h0, .inr (7, [.ref h1, .ref h2, .ref h3, .ref h4, .ref h5, .ref h6, .int a0, .int a1, .int a2, .int a3, .int a4, .int a5, .int a6, .int a7])), (h1, .inl (cI, 9, .inl g0)), (h2, .inl (cI, 9, .inl g1))]) [2, 4, 5, 6, 3, 0, 1] rfl, hD.sub (ws' := [(h3, .inl (cI, 9, .inl g2)), (h4, .inl (cI, 81, .inl g3)), (h5, .inl (cI, 81, .inl g4)), (h6, .inl (cI, 4608, .inl g5)), (h0, .inr (7, [.ref h1, .ref h2, .ref h3, .ref h4, .ref h5, .ref h6, .int a0, .int a1, .int a2, .int a3, .int a4, .int a5, .int a6, .int a7])), (h1, .inl (cI, 9, .inl g0)), (h2, .inl (cI, 9, .inl g1))]) [2, 4, 5, 6, 3, 0, 1] (by decide) rfl, hS, lv_sub hl [0, 3, 1, 4, 5, 6] rfl, (rg_mono hx_325 (by decide) (by decide))⟩ (by show ((9) - x_325.toInt).toNat < ((9) - x_265.toInt).toNat; have ha := h_300; simp only [rg] at ha; omega)
          refine lv_lookup (off := 43) (tgt := 110) hx hb dX7_onward_67 (by decide) (by have ha := ha5; simp only [rg, fa_eq, (by decide : (0 : Int32).toInt = 0), (by decide : (1 : Int32).toInt = 1)] at ha c_318 c_322; simp only [Op.lookupswitch.offset]; repeat (first | rfl | (rw [if_neg (by omega)]))) (by decide) ?_
          refine lv_iload_n hx hb dX7_onward_110 rfl (lv_at hl 3 rfl) ?_
          refine lv_iload hx hb dX7_onward_111 (lv_at hl 0 rfl) ?_
          refine lv_iand hx hb dX7_onward_113 ?_
          refine lv_topi (fun x_326 ex_326 => ?_)
          refine lv_istore_n (lv' := [(3, .int x_326), (6, .int r_317), (5, .int x_265), (4, .int r_2), (0, .ref h0), (1, .int p0), (2, .int p1)]) hx hb dX7_onward_114 rfl hl (by decide) rfl (fun ls hl => ?_)
          obtain ⟨x_327, ex_327⟩ : ∃ y : Int32, y = x_265 + Int32.ofInt (1) := ⟨_, rfl⟩
          have hx_327 : rg (1) (9) x_327 := by rw [ex_327]; exact rg_mono (rg_add h_300 (rg_k (x := Int32.ofInt (1)) (c := 1) (by decide)) (by decide) (by decide)) (by decide) (by decide)
          have qx_327 : x_327.toInt = x_265.toInt + (1) := by rw [ex_327]; exact rg_addE h_300 (rg_k (x := Int32.ofInt (1)) (c := 1) (by decide)) (by decide) (by decide) (by decide)
          refine lv_iinc (v := x_327) (lv' := [(5, .int x_327), (3, .int x_326), (6, .int r_317), (4, .int r_2), (0, .ref h0), (1, .int p0), (2, .int p1)]) hx hb dX7_onward_115 hl (k := 2) rfl (ex_327.symm) (by decide) rfl (fun ls hl => ?_)
          clear ex_327
          refine lv_goto (tgt := 16) hx hb dX7_onward_118 (by decide) ?_
          exact ih_297 (x_327, x_326) H locs ls ⟨hP.sub (ws' := [(h3, .inl (cI, 9, .inl g2)), (h4, .inl (cI, 81, .inl g3)), (h5, .inl (cI, 81, .inl g4)), (h6, .inl (cI, 4608, .inl g5)), (h0, .inr (7, [.ref h1, .ref h2, .ref h3, .ref h4, .ref h5, .ref h6, .int a0, .int a1, .int a2, .int a3, .int a4, .int a5, .int a6, .int a7])), (h1, .inl (cI, 9, .inl g0)), (h2, .inl (cI, 9, .inl g1))]) [2, 4, 5, 6, 3, 0, 1] rfl, hD.sub (ws' := [(h3, .inl (cI, 9, .inl g2)), (h4, .inl (cI, 81, .inl g3)), (h5, .inl (cI, 81, .inl g4)), (h6, .inl (cI, 4608, .inl g5)), (h0, .inr (7, [.ref h1, .ref h2, .ref h3, .ref h4, .ref h5, .ref h6, .int a0, .int a1, .int a2, .int a3, .int a4, .int a5, .int a6, .int a7])), (h1, .inl (cI, 9, .inl g0)), (h2, .inl (cI, 9, .inl g1))]) [2, 4, 5, 6, 3, 0, 1] (by decide) rfl, hS, lv_sub hl [0, 3, 1, 4, 5, 6] rfl, (rg_mono hx_327 (by decide) (by decide))⟩ (by show ((9) - x_327.toInt).toNat < ((9) - x_265.toInt).toNat; have ha := h_300; simp only [rg] at ha; omega)
def v_s_X7_closing : List Cond := Cond.code yX7_closing cX7_closing 2 (some .int) :: ([Cond.fieldLink RX7 37 "MayRings$Ways" "closes" "Z", Cond.fieldLink RX7 15 "MayRings$Ways" "pairs" "[I", Cond.fieldLink RX7 53 "MayRings$Ways" "start" "I", Cond.fieldLink RX7 47 "MayRings$Ways" "sort" "I", Cond.fieldLink RX7 21 "MayRings$Ways" "pairCosts" "[I", Cond.methodLink RX7 106 yX7_seen, Cond.instanceMethod yX7_seen, Cond.selects RX7 yX7_seen yX7_seen, Cond.initialized RX7, Cond.methodLink RX7 83 yX7_nothing, Cond.instanceMethod yX7_nothing, Cond.selects RX7 yX7_nothing yX7_nothing] ++ (wsX70 ++ (v_s_X7_seen ++ (v_s_X7_nothing ++ ([])))))
theorem k_s_X7_closing : GoodIn lw_tbl v_s_X7_closing := gd_c (List.mem_of_getElem? (i := 949) (by decide +kernel)) rfl (goodIn_app (gd_c (List.mem_of_getElem? (i := 457) (by decide +kernel)) rfl (gd_c (List.mem_of_getElem? (i := 443) (by decide +kernel)) rfl (gd_c (List.mem_of_getElem? (i := 464) (by decide +kernel)) rfl (gd_c (List.mem_of_getElem? (i := 462) (by decide +kernel)) rfl (gd_c (List.mem_of_getElem? (i := 447) (by decide +kernel)) rfl (gd_c (List.mem_of_getElem? (i := 950) (by decide +kernel)) rfl (gd_c (List.mem_of_getElem? (i := 952) (by decide +kernel)) rfl (gd_c (List.mem_of_getElem? (i := 43) (by decide +kernel)) rfl (gd_c (List.mem_of_getElem? (i := 142) (by decide +kernel)) rfl (gd_c (List.mem_of_getElem? (i := 937) (by decide +kernel)) rfl (gd_c (List.mem_of_getElem? (i := 939) (by decide +kernel)) rfl (gd_c (List.mem_of_getElem? (i := 40) (by decide +kernel)) rfl (gd_nil))))))))))))) (goodIn_app kfX7 (goodIn_app k_s_X7_seen (goodIn_app k_s_X7_nothing (gd_nil)))))
set_option maxHeartbeats 2000000 in
set_option maxRecDepth 100000 in
theorem c_s_X7_closing (l : Launch) (dC : Nat → ClassId) (dI : Nat → Nat → Nat) (cB cI cJ cZ cP : ClassId) (h0 : Nat) (h1 : Nat) (h2 : Nat) (g1 : Nat → Int32) (hg1 : rgA (0) (511) g1) (h3 : Nat) (h4 : Nat) (g3 : Nat → Int32) (h5 : Nat) (h6 : Nat) (a0 : Int32) (a1 : Int32) (a2 : Int32) (ha2 : rg (0) (1) a2) (a3 : Int32) (a4 : Int32) (a5 : Int32) (ha5 : rg (0) (2) a5) (a6 : Int32) (a7 : Int32) (ha7 : rg (0) (8) a7) (p0 : Int32) (hp0 : rg (0) (8) p0) (sz : Nat) : Met l yX7_closing v_s_X7_closing ({ frames := 1, cells := 0, slots := 0, locals := 22 }) (va_Pc [.ref h0, .int p0] (fun U => U.heap.size = sz ∧ va_P (dC, dI) vwCl [(h0, .inr (7, [.ref h1, .ref h2, .ref h3, .ref h4, .ref h5, .ref h6, .int a0, .int a1, .int a2, .int a3, .int a4, .int a5, .int a6, .int a7])), (h2, .inl (cI, 9, .inl g1)), (h4, .inl (cI, 81, .inl g3))] U.heap ∧ va_K (dC, dI) vwCl (ty5 cB cI cJ cZ cP) U ∧ va_D (fun _ => True) [(h0, .inr (7, [.ref h1, .ref h2, .ref h3, .ref h4, .ref h5, .ref h6, .int a0, .int a1, .int a2, .int a3, .int a4, .int a5, .int a6, .int a7])), (h2, .inl (cI, 9, .inl g1)), (h4, .inl (cI, 81, .inl g3))])) (va_Qi (fun (r : Int32) (u9 : Unit) => True) (fun u9 t => va_P (dC, dI) vwCl [(h0, .inr (7, [.ref h1, .ref h2, .ref h3, .ref h4, .ref h5, .ref h6, .int a0, .int a1, .int a2, .int a3, .int a4, .int a5, .int a6, .int a7])), (h2, .inl (cI, 9, .inl g1)), (h4, .inl (cI, 81, .inl g3))] t.heap ∧ va_D (va_A [(h0, .inr (7, [.ref h1, .ref h2, .ref h3, .ref h4, .ref h5, .ref h6, .int a0, .int a1, .int a2, .int a3, .int a4, .int a5, .int a6, .int a7])), (h2, .inl (cI, 9, .inl g1)), (h4, .inl (cI, 81, .inl g3))] sz) [(h0, .inr (7, [.ref h1, .ref h2, .ref h3, .ref h4, .ref h5, .ref h6, .int a0, .int a1, .int a2, .int a3, .int a4, .int a5, .int a6, .int a7])), (h2, .inl (cI, 9, .inl g1)), (h4, .inl (cI, 81, .inl g3))]) (va_A [(h0, .inr (7, [.ref h1, .ref h2, .ref h3, .ref h4, .ref h5, .ref h6, .int a0, .int a1, .int a2, .int a3, .int a4, .int a5, .int a6, .int a7])), (h2, .inl (cI, 9, .inl g1)), (h4, .inl (cI, 81, .inl g3))] sz)) 0 0 (va_A [(h0, .inr (7, [.ref h1, .ref h2, .ref h3, .ref h4, .ref h5, .ref h6, .int a0, .int a1, .int a2, .int a3, .int a4, .int a5, .int a6, .int a7])), (h2, .inl (cI, 9, .inl g1)), (h4, .inl (cI, 81, .inl g3))] sz) := by
  refine Met.ofW (cc := cX7_closing) (maxL := 2) (ret := (some .int)) (by decide) rfl ?_
  intro p e s m args below meth c s₁ B hml hv
  obtain ⟨rfl, hsz, hP, hK, hD0⟩ := hv
  have hx := B.exec
  have hb := B.bytes
  have hr := B.returns
  have hts := atoms_spec (ws := v_s_X7_closing) B.pre
  have hown : s.vm.findClass RX7 = some m.cls := findClass_of_methodNamed B.named
  have hlocks := B.notSynchronized
  have hinX7 : ∀ w ∈ wsX70, w ∈ v_s_X7_closing := fun _ h => List.mem_cons_of_mem _ (List.mem_append_right _ (List.mem_append_left _ h))
  subst hsz
  have hD := hD0.self (sz := s.heap.size)
  generalize hAe : va_A [(h0, .inr (7, [.ref h1, .ref h2, .ref h3, .ref h4, .ref h5, .ref h6, .int a0, .int a1, .int a2, .int a3, .int a4, .int a5, .int a6, .int a7])), (h2, .inl (cI, 9, .inl g1)), (h4, .inl (cI, 81, .inl g3))] s.heap.size = A at hD ⊢
  have hA : ∀ q : Nat, s.heap.size ≤ q → A q := fun q h => by rw [← hAe]; exact Or.inr h
  have hP : va_P (dC, dI) vwCl [(h0, .inr (7, [.ref h1, .ref h2, .ref h3, .ref h4, .ref h5, .ref h6, .int a0, .int a1, .int a2, .int a3, .int a4, .int a5, .int a6, .int a7])), (h2, .inl (cI, 9, .inl g1)), (h4, .inl (cI, 81, .inl g3))] s.heap := hP
  have hl := lv_entry ([.ref h0, .int p0]) (n := 2) (Nat.le_of_ble_eq_true rfl)
  rw [lg_entry_eq]
  generalize (lg_sl ([.ref h0, .int p0]) ++ List.replicate (2 - (lg_sl ([.ref h0, .int p0])).length) Slot.unset).toArray = ls at hl ⊢
  have hl : lv_has ls 2 [(0, .ref h0), (1, .int p0)] := hl
  refine W_gen (A := A) hP (fun H locs hP hS => ?_)
  refine lv_aload_n hx hb dX7_closing_0 rfl (lv_at hl 0 rfl) ?_
  refine va_get (D := (dC, dI)) (ci := 7) (v := .int a2) (C := RX7) (T := TX7) (N := 14) hx hb hts hinX7 hown hK hP 0 rfl rfl 8 (by decide) (hts (.fieldLink RX7 37 "MayRings$Ways" "closes" "Z") (List.mem_of_getElem? (i := 1) rfl)) (fun _ h9 => h9) rfl dX7_closing_1 ?_
  refine lv_if_ne (tgt := 20) hx hb dX7_closing_4 (by decide) (fun c_1 => ?_) (fun c_1 => ?_)
  · skip
    have h_2 : rg (1) (1) a2 := by have ha := ha2; have hb_ := (rg_k (x := 0) (c := 0) (by decide)); simp only [rg, fa_lt, fa_le, fa_eq, (by decide : (0 : Int32).toInt = 0)] at ha hb_ c_1; simp only [rg]; omega
    refine lv_aload_n hx hb dX7_closing_20 rfl (lv_at hl 0 rfl) ?_
    refine va_get (D := (dC, dI)) (ci := 7) (v := .ref h2) (C := RX7) (T := TX7) (N := 14) hx hb hts hinX7 hown hK hP 0 rfl rfl 1 (by decide) (hts (.fieldLink RX7 15 "MayRings$Ways" "pairs" "[I") (List.mem_of_getElem? (i := 2) rfl)) (fun _ h9 => h9) rfl dX7_closing_21 ?_
    refine lv_iload_n hx hb dX7_closing_24 rfl (lv_at hl 1 rfl) ?_
    refine va_iald hx hb hK hP 1 1 rfl rfl (rg_in (n := 9) (rg_mono hp0 (by decide) (by decide))) dX7_closing_25 ?_
    refine lv_topi (fun x_3 ex_3 => ?_)
    have hx_3 : rg (0) (511) x_3 := by rw [ex_3]; exact rg_mono (hg1 _) (by decide) (by decide)
    refine lv_aload_n hx hb dX7_closing_26 rfl (lv_at hl 0 rfl) ?_
    refine va_get (D := (dC, dI)) (ci := 7) (v := .int a7) (C := RX7) (T := TX7) (N := 14) hx hb hts hinX7 hown hK hP 0 rfl rfl 13 (by decide) (hts (.fieldLink RX7 53 "MayRings$Ways" "start" "I") (List.mem_of_getElem? (i := 3) rfl)) (fun _ h9 => h9) rfl dX7_closing_27 ?_
    refine lv_ishr hx hb dX7_closing_30 ?_
    refine lv_topi (fun x_4 ex_4 => ?_)
    have hx_4 : rg (0) (511) x_4 := by rw [ex_4]; exact rg_mono (rg_shr (b := 511) (rg_mono hx_3 (by decide) (by decide))) (by decide) (by decide)
    have kx_4_0 : rg 1 2147483647 x_4 → rg 1 (511) x_3 := fun hq => rg_shrP hx_3 (ex_4 ▸ hq)
    refine lv_iconst (v := 1) hx hb dX7_closing_31 (by decide) ?_
    refine lv_iand hx hb dX7_closing_32 ?_
    refine lv_topi (fun x_5 ex_5 => ?_)
    have hx_5 : rg (0) (1) x_5 := by rw [ex_5]; exact rg_mono (rg_andr (b := 1) (rg_mono (rg_k (x := 1) (c := 1) (by decide)) (by decide) (by decide))) (by decide) (by decide)
    have kx_5_0 : rg 1 2147483647 x_5 → rg 1 (511) x_4 := fun hq => rg_andP hx_4 (ex_5 ▸ hq)
    refine lv_if_ne (tgt := 41) hx hb dX7_closing_33 (by decide) (fun c_6 => ?_) (fun c_6 => ?_)
    · skip
      have h_7 : rg (1) (1) x_5 := by have ha := hx_5; have hb_ := (rg_k (x := 0) (c := 0) (by decide)); simp only [rg, fa_lt, fa_le, fa_eq, (by decide : (0 : Int32).toInt = 0)] at ha hb_ c_6; simp only [rg]; omega
      have h_8 : rg (1) (511) x_4 := rg_meet hx_4 (kx_5_0 (rg_mono h_7 (by decide) (by decide))) (by decide) (by decide)
      have h_9 : rg (1) (511) x_3 := rg_meet hx_3 (kx_4_0 (rg_mono h_8 (by decide) (by decide))) (by decide) (by decide)
      refine lv_aload_n hx hb dX7_closing_41 rfl (lv_at hl 0 rfl) ?_
      refine va_get (D := (dC, dI)) (ci := 7) (v := .int a5) (C := RX7) (T := TX7) (N := 14) hx hb hts hinX7 hown hK hP 0 rfl rfl 11 (by decide) (hts (.fieldLink RX7 47 "MayRings$Ways" "sort" "I") (List.mem_of_getElem? (i := 4) rfl)) (fun _ h9 => h9) rfl dX7_closing_42 ?_
      by_cases c_10 : a5 = 0
      · skip
        refine tp_v (.int 0) (congrArg Value.int (c_10)) ?_
        refine lv_lookup (off := 27) (tgt := 72) hx hb dX7_closing_45 (by decide) (by decide) (by decide) ?_
        have h_11 : rg (0) (0) a5 := by have ha := ha5; have hb_ := (rg_k (x := 0) (c := 0) (by decide)); simp only [rg, fa_lt, fa_le, fa_eq, (by decide : (0 : Int32).toInt = 0)] at ha hb_ c_10; simp only [rg]; omega
        refine lv_iconst (v := 1) hx hb dX7_closing_72 (by decide) ?_
        have hP9 := hP.sub (ws' := [(h0, .inr (7, [.ref h1, .ref h2, .ref h3, .ref h4, .ref h5, .ref h6, .int a0, .int a1, .int a2, .int a3, .int a4, .int a5, .int a6, .int a7])), (h2, .inl (cI, 9, .inl g1)), (h4, .inl (cI, 81, .inl g3))]) [0, 1, 2] rfl
        have hD9 := hD.sub (ws' := [(h0, .inr (7, [.ref h1, .ref h2, .ref h3, .ref h4, .ref h5, .ref h6, .int a0, .int a1, .int a2, .int a3, .int a4, .int a5, .int a6, .int a7])), (h2, .inl (cI, 9, .inl g1)), (h4, .inl (cI, 81, .inl g3))]) [0, 1, 2] (by decide) rfl
        exact W.iret (v := 1) hx hb hr (fun t ht hW => ⟨⟨1, (), rfl, trivial, ⟨by rw [ht]; exact hP9, hD9⟩⟩, hS.F ht⟩) hS.2.2 dX7_closing_73
      by_cases c_12 : a5 = 1
      · skip
        refine tp_v (.int 1) (congrArg Value.int (c_12)) ?_
        refine lv_lookup (off := 29) (tgt := 74) hx hb dX7_closing_45 (by decide) (by decide) (by decide) ?_
        have h_13 : rg (1) (1) a5 := by have ha := ha5; have hb_ := (rg_k (x := 1) (c := 1) (by decide)); simp only [rg, fa_lt, fa_le, fa_eq, (by decide : (1 : Int32).toInt = 1)] at ha hb_ c_12; simp only [rg]; omega
        refine lv_aload_n hx hb dX7_closing_74 rfl (lv_at hl 0 rfl) ?_
        refine va_get (D := (dC, dI)) (ci := 7) (v := .ref h4) (C := RX7) (T := TX7) (N := 14) hx hb hts hinX7 hown hK hP 0 rfl rfl 3 (by decide) (hts (.fieldLink RX7 21 "MayRings$Ways" "pairCosts" "[I") (List.mem_of_getElem? (i := 5) rfl)) (fun _ h9 => h9) rfl dX7_closing_75 ?_
        refine lv_iload_n hx hb dX7_closing_78 rfl (lv_at hl 1 rfl) ?_
        refine lv_bipush (v := 9) hx hb dX7_closing_79 (by decide) ?_
        refine lv_imul hx hb dX7_closing_81 ?_
        refine lv_topi (fun x_14 ex_14 => ?_)
        have hx_14 : rg (0) (72) x_14 := by rw [ex_14]; exact rg_mono (rg_mul hp0 (rg_k (x := 9) (c := 9) (by decide)) (by decide) (by decide) (by decide)) (by decide) (by decide)
        refine lv_aload_n hx hb dX7_closing_82 rfl (lv_at hl 0 rfl) ?_
        refine va_get (D := (dC, dI)) (ci := 7) (v := .int a7) (C := RX7) (T := TX7) (N := 14) hx hb hts hinX7 hown hK hP 0 rfl rfl 13 (by decide) (hts (.fieldLink RX7 53 "MayRings$Ways" "start" "I") (List.mem_of_getElem? (i := 3) rfl)) (fun _ h9 => h9) rfl dX7_closing_83 ?_
        refine lv_iadd hx hb dX7_closing_86 ?_
        refine lv_topi (fun x_15 ex_15 => ?_)
        have hx_15 : rg (0) (80) x_15 := by rw [ex_15]; exact rg_mono (rg_add hx_14 ha7 (by decide) (by decide)) (by decide) (by decide)
        have qx_15 : x_15.toInt = x_14.toInt + a7.toInt := by rw [ex_15]; exact rg_addQ hx_14 ha7 (by decide) (by decide)
        refine va_iald hx hb hK hP 2 1 rfl rfl (rg_in (n := 81) (rg_mono hx_15 (by decide) (by decide))) dX7_closing_87 ?_
        refine lv_topi (fun x_16 ex_16 => ?_)
        have hP9 := hP.sub (ws' := [(h0, .inr (7, [.ref h1, .ref h2, .ref h3, .ref h4, .ref h5, .ref h6, .int a0, .int a1, .int a2, .int a3, .int a4, .int a5, .int a6, .int a7])), (h2, .inl (cI, 9, .inl g1)), (h4, .inl (cI, 81, .inl g3))]) [0, 1, 2] rfl
        have hD9 := hD.sub (ws' := [(h0, .inr (7, [.ref h1, .ref h2, .ref h3, .ref h4, .ref h5, .ref h6, .int a0, .int a1, .int a2, .int a3, .int a4, .int a5, .int a6, .int a7])), (h2, .inl (cI, 9, .inl g1)), (h4, .inl (cI, 81, .inl g3))]) [0, 1, 2] (by decide) rfl
        exact W.iret (v := x_16) hx hb hr (fun t ht hW => ⟨⟨x_16, (), rfl, trivial, ⟨by rw [ht]; exact hP9, hD9⟩⟩, hS.F ht⟩) hS.2.2 dX7_closing_88
      refine lv_lookup (off := 44) (tgt := 89) hx hb dX7_closing_45 (by decide) (by have ha := ha5; simp only [rg, fa_eq, (by decide : (0 : Int32).toInt = 0), (by decide : (1 : Int32).toInt = 1)] at ha c_10 c_12; simp only [Op.lookupswitch.offset]; repeat (first | rfl | (rw [if_neg (by omega)]))) (by decide) ?_
      refine lv_aload_n hx hb dX7_closing_89 rfl (lv_at hl 0 rfl) ?_
      refine lv_iload_n hx hb dX7_closing_90 rfl (lv_at hl 1 rfl) ?_
      refine lv_aload_n hx hb dX7_closing_91 rfl (lv_at hl 0 rfl) ?_
      refine va_get (D := (dC, dI)) (ci := 7) (v := .int a7) (C := RX7) (T := TX7) (N := 14) hx hb hts hinX7 hown hK hP 0 rfl rfl 13 (by decide) (hts (.fieldLink RX7 53 "MayRings$Ways" "start" "I") (List.mem_of_getElem? (i := 3) rfl)) (fun _ h9 => h9) rfl dX7_closing_92 ?_
      have hPc := hP.sub (ws' := [(h0, .inr (7, [.ref h1, .ref h2, .ref h3, .ref h4, .ref h5, .ref h6, .int a0, .int a1, .int a2, .int a3, .int a4, .int a5, .int a6, .int a7]))]) [0] rfl
      have hDc := hD.sub (ws' := [(h0, .inr (7, [.ref h1, .ref h2, .ref h3, .ref h4, .ref h5, .ref h6, .int a0, .int a1, .int a2, .int a3, .int a4, .int a5, .int a6, .int a7]))]) [0] (by decide) rfl
      have hFc := va_free (wc := [(h0, .inr (7, [.ref h1, .ref h2, .ref h3, .ref h4, .ref h5, .ref h6, .int a0, .int a1, .int a2, .int a3, .int a4, .int a5, .int a6, .int a7]))]) hD hS hA [0] rfl
      refine va_calli (va_runV (As := [.int p0, .int a7]) (rest := []) ⟨hx, hb, hml, hown, hts⟩ (c_s_X7_seen l dC dI cB cI cJ cZ cP h0 h1 h2 h3 h4 h5 h6 a0 a1 a2 a3 a4 a5 a6 a7 p0 (rg_mono hp0 (by decide) (by decide)) a7 (rg_mono ha7 (by decide) (by decide)) H.size) (cwV 2 hts (gd_V (List.mem_of_getElem? (i := 6) rfl) (List.mem_of_getElem? (i := 7) rfl) (List.mem_of_getElem? (i := 8) rfl) (List.mem_of_getElem? (i := 9) rfl) (gd_mono k_s_X7_seen (fun _ h => List.mem_cons_of_mem _ (List.mem_append_right _ (List.mem_append_right _ (List.mem_append_left _ h)))))) rfl rfl rfl (by decide +kernel) ⟨Nat.le_of_ble_eq_true rfl, Nat.le_of_ble_eq_true rfl⟩) ⟨fun a U g mk q => by obtain ⟨q0, q1, qP, qK, qD⟩ := q; exact ⟨q0, q1, qP, va_K.moved (u := U) (U := U.calling g mk a) (Vm.Alike.refl U.vm) qK, qD⟩, va_recv hK hPc (ci := 7) (q0 := 0) rfl rfl, fun U hU hW => ⟨rfl, by rw [hU], by rw [hU]; exact hPc, va_K.moved hW.alike hK, hDc.weaken (fun _ _ _ _ => trivial)⟩⟩ rfl rfl hl.1 rfl (lv_room (Nat.le_of_ble_eq_true rfl)) dX7_closing_95 ⟨Nat.le_of_ble_eq_true rfl, Nat.le_of_ble_eq_true rfl⟩) hS (fun q _ h => hFc q h) hFc (fun r_17 u t H1 locs ht hvm hw hB hz1 hk1 hS => ?_)
      obtain ⟨hP1, hD1⟩ := hB
      rw [ht] at hP1
      obtain ⟨hP, hD⟩ := va_join (wr := [(h2, .inl (cI, 9, .inl g1)), (h4, .inl (cI, 81, .inl g3))]) (w1 := [(h0, .inr (7, [.ref h1, .ref h2, .ref h3, .ref h4, .ref h5, .ref h6, .int a0, .int a1, .int a2, .int a3, .int a4, .int a5, .int a6, .int a7]))]) hP hD [0] [1, 2] rfl rfl (by decide) (by decide) hk1 hFc hP1 hD1
      generalize H1 = H at hP hS ⊢
      replace hP : va_P (dC, dI) vwCl [(h2, .inl (cI, 9, .inl g1)), (h4, .inl (cI, 81, .inl g3)), (h0, .inr (7, [.ref h1, .ref h2, .ref h3, .ref h4, .ref h5, .ref h6, .int a0, .int a1, .int a2, .int a3, .int a4, .int a5, .int a6, .int a7]))] H := hP
      replace hD : va_D A [(h2, .inl (cI, 9, .inl g1)), (h4, .inl (cI, 81, .inl g3)), (h0, .inr (7, [.ref h1, .ref h2, .ref h3, .ref h4, .ref h5, .ref h6, .int a0, .int a1, .int a2, .int a3, .int a4, .int a5, .int a6, .int a7]))] := hD
      have hr_17 : rg (0) (256) r_17 := hw
      have hP9 := hP.sub (ws' := [(h0, .inr (7, [.ref h1, .ref h2, .ref h3, .ref h4, .ref h5, .ref h6, .int a0, .int a1, .int a2, .int a3, .int a4, .int a5, .int a6, .int a7])), (h2, .inl (cI, 9, .inl g1)), (h4, .inl (cI, 81, .inl g3))]) [2, 0, 1] rfl
      have hD9 := hD.sub (ws' := [(h0, .inr (7, [.ref h1, .ref h2, .ref h3, .ref h4, .ref h5, .ref h6, .int a0, .int a1, .int a2, .int a3, .int a4, .int a5, .int a6, .int a7])), (h2, .inl (cI, 9, .inl g1)), (h4, .inl (cI, 81, .inl g3))]) [2, 0, 1] (by decide) rfl
      exact W.iret (v := r_17) hx hb hr (fun t ht hW => ⟨⟨r_17, (), rfl, trivial, ⟨by rw [ht]; exact hP9, hD9⟩⟩, hS.F ht⟩) hS.2.2 dX7_closing_98
    · skip
      have h_18 : rg (0) (0) x_5 := by have ha := hx_5; have hb_ := (rg_k (x := 0) (c := 0) (by decide)); simp only [rg, fa_lt, fa_le, fa_eq, (by decide : (0 : Int32).toInt = 0)] at ha hb_ c_6; simp only [rg]; omega
      refine lv_aload_n hx hb dX7_closing_36 rfl (lv_at hl 0 rfl) ?_
      have hPc := hP.sub (ws' := [(h0, .inr (7, [.ref h1, .ref h2, .ref h3, .ref h4, .ref h5, .ref h6, .int a0, .int a1, .int a2, .int a3, .int a4, .int a5, .int a6, .int a7]))]) [0] rfl
      have hDc := hD.sub (ws' := [(h0, .inr (7, [.ref h1, .ref h2, .ref h3, .ref h4, .ref h5, .ref h6, .int a0, .int a1, .int a2, .int a3, .int a4, .int a5, .int a6, .int a7]))]) [0] (by decide) rfl
      have hFc := va_free (wc := [(h0, .inr (7, [.ref h1, .ref h2, .ref h3, .ref h4, .ref h5, .ref h6, .int a0, .int a1, .int a2, .int a3, .int a4, .int a5, .int a6, .int a7]))]) hD hS hA [0] rfl
      refine va_calli (va_runV (As := []) (rest := []) ⟨hx, hb, hml, hown, hts⟩ (c_s_X7_nothing l dC dI cB cI cJ cZ cP h0 h1 h2 h3 h4 h5 h6 a0 a1 a2 a3 a4 a5 (rg_mono ha5 (by decide) (by decide)) a6 a7 H.size) (cwV 0 hts (gd_V (List.mem_of_getElem? (i := 10) rfl) (List.mem_of_getElem? (i := 11) rfl) (List.mem_of_getElem? (i := 12) rfl) (List.mem_of_getElem? (i := 9) rfl) (gd_mono k_s_X7_nothing (fun _ h => List.mem_cons_of_mem _ (List.mem_append_right _ (List.mem_append_right _ (List.mem_append_right _ (List.mem_append_left _ h))))))) rfl rfl rfl (by decide +kernel) ⟨Nat.le_of_ble_eq_true rfl, Nat.le_of_ble_eq_true rfl⟩) ⟨fun a U g mk q => by obtain ⟨q0, q1, qP, qK, qD⟩ := q; exact ⟨q0, q1, qP, va_K.moved (u := U) (U := U.calling g mk a) (Vm.Alike.refl U.vm) qK, qD⟩, va_recv hK hPc (ci := 7) (q0 := 0) rfl rfl, fun U hU hW => ⟨rfl, by rw [hU], by rw [hU]; exact hPc, va_K.moved hW.alike hK, hDc.weaken (fun _ _ _ _ => trivial)⟩⟩ rfl rfl hl.1 rfl (lv_room (Nat.le_of_ble_eq_true rfl)) dX7_closing_37 ⟨Nat.le_of_ble_eq_true rfl, Nat.le_of_ble_eq_true rfl⟩) hS (fun q _ h => hFc q h) hFc (fun r_19 u t H1 locs ht hvm hw hB hz1 hk1 hS => ?_)
      obtain ⟨hP1, hD1⟩ := hB
      rw [ht] at hP1
      obtain ⟨hP, hD⟩ := va_join (wr := [(h2, .inl (cI, 9, .inl g1)), (h4, .inl (cI, 81, .inl g3))]) (w1 := [(h0, .inr (7, [.ref h1, .ref h2, .ref h3, .ref h4, .ref h5, .ref h6, .int a0, .int a1, .int a2, .int a3, .int a4, .int a5, .int a6, .int a7]))]) hP hD [0] [1, 2] rfl rfl (by decide) (by decide) hk1 hFc hP1 hD1
      generalize H1 = H at hP hS ⊢
      replace hP : va_P (dC, dI) vwCl [(h2, .inl (cI, 9, .inl g1)), (h4, .inl (cI, 81, .inl g3)), (h0, .inr (7, [.ref h1, .ref h2, .ref h3, .ref h4, .ref h5, .ref h6, .int a0, .int a1, .int a2, .int a3, .int a4, .int a5, .int a6, .int a7]))] H := hP
      replace hD : va_D A [(h2, .inl (cI, 9, .inl g1)), (h4, .inl (cI, 81, .inl g3)), (h0, .inr (7, [.ref h1, .ref h2, .ref h3, .ref h4, .ref h5, .ref h6, .int a0, .int a1, .int a2, .int a3, .int a4, .int a5, .int a6, .int a7]))] := hD
      have hr_19 : rg (-1) (1000000) r_19 := hw
      have hP9 := hP.sub (ws' := [(h0, .inr (7, [.ref h1, .ref h2, .ref h3, .ref h4, .ref h5, .ref h6, .int a0, .int a1, .int a2, .int a3, .int a4, .int a5, .int a6, .int a7])), (h2, .inl (cI, 9, .inl g1)), (h4, .inl (cI, 81, .inl g3))]) [2, 0, 1] rfl
      have hD9 := hD.sub (ws' := [(h0, .inr (7, [.ref h1, .ref h2, .ref h3, .ref h4, .ref h5, .ref h6, .int a0, .int a1, .int a2, .int a3, .int a4, .int a5, .int a6, .int a7])), (h2, .inl (cI, 9, .inl g1)), (h4, .inl (cI, 81, .inl g3))]) [2, 0, 1] (by decide) rfl
      exact W.iret (v := r_19) hx hb hr (fun t ht hW => ⟨⟨r_19, (), rfl, trivial, ⟨by rw [ht]; exact hP9, hD9⟩⟩, hS.F ht⟩) hS.2.2 dX7_closing_40
  · skip
    have h_20 : rg (0) (0) a2 := by have ha := ha2; have hb_ := (rg_k (x := 0) (c := 0) (by decide)); simp only [rg, fa_lt, fa_le, fa_eq, (by decide : (0 : Int32).toInt = 0)] at ha hb_ c_1; simp only [rg]; omega
    refine lv_aload_n hx hb dX7_closing_7 rfl (lv_at hl 0 rfl) ?_
    refine va_get (D := (dC, dI)) (ci := 7) (v := .int a5) (C := RX7) (T := TX7) (N := 14) hx hb hts hinX7 hown hK hP 0 rfl rfl 11 (by decide) (hts (.fieldLink RX7 47 "MayRings$Ways" "sort" "I") (List.mem_of_getElem? (i := 4) rfl)) (fun _ h9 => h9) rfl dX7_closing_8 ?_
    refine lv_if_ne (tgt := 18) hx hb dX7_closing_11 (by decide) (fun c_21 => ?_) (fun c_21 => ?_)
    · skip
      have h_22 : rg (1) (2) a5 := by have ha := ha5; have hb_ := (rg_k (x := 0) (c := 0) (by decide)); simp only [rg, fa_lt, fa_le, fa_eq, (by decide : (0 : Int32).toInt = 0)] at ha hb_ c_21; simp only [rg]; omega
      refine lv_iconst (v := 0) hx hb dX7_closing_18 (by decide) ?_
      have hP9 := hP.sub (ws' := [(h0, .inr (7, [.ref h1, .ref h2, .ref h3, .ref h4, .ref h5, .ref h6, .int a0, .int a1, .int a2, .int a3, .int a4, .int a5, .int a6, .int a7])), (h2, .inl (cI, 9, .inl g1)), (h4, .inl (cI, 81, .inl g3))]) [0, 1, 2] rfl
      have hD9 := hD.sub (ws' := [(h0, .inr (7, [.ref h1, .ref h2, .ref h3, .ref h4, .ref h5, .ref h6, .int a0, .int a1, .int a2, .int a3, .int a4, .int a5, .int a6, .int a7])), (h2, .inl (cI, 9, .inl g1)), (h4, .inl (cI, 81, .inl g3))]) [0, 1, 2] (by decide) rfl
      exact W.iret (v := 0) hx hb hr (fun t ht hW => ⟨⟨0, (), rfl, trivial, ⟨by rw [ht]; exact hP9, hD9⟩⟩, hS.F ht⟩) hS.2.2 dX7_closing_19
    · skip
      have h_23 : rg (0) (0) a5 := by have ha := ha5; have hb_ := (rg_k (x := 0) (c := 0) (by decide)); simp only [rg, fa_lt, fa_le, fa_eq, (by decide : (0 : Int32).toInt = 0)] at ha hb_ c_21; simp only [rg]; omega
      refine lv_iconst (v := 1) hx hb dX7_closing_14 (by decide) ?_
      refine lv_goto (tgt := 19) hx hb dX7_closing_15 (by decide) ?_
      have hP9 := hP.sub (ws' := [(h0, .inr (7, [.ref h1, .ref h2, .ref h3, .ref h4, .ref h5, .ref h6, .int a0, .int a1, .int a2, .int a3, .int a4, .int a5, .int a6, .int a7])), (h2, .inl (cI, 9, .inl g1)), (h4, .inl (cI, 81, .inl g3))]) [0, 1, 2] rfl
      have hD9 := hD.sub (ws' := [(h0, .inr (7, [.ref h1, .ref h2, .ref h3, .ref h4, .ref h5, .ref h6, .int a0, .int a1, .int a2, .int a3, .int a4, .int a5, .int a6, .int a7])), (h2, .inl (cI, 9, .inl g1)), (h4, .inl (cI, 81, .inl g3))]) [0, 1, 2] (by decide) rfl
      exact W.iret (v := 1) hx hb hr (fun t ht hW => ⟨⟨1, (), rfl, trivial, ⟨by rw [ht]; exact hP9, hD9⟩⟩, hS.F ht⟩) hS.2.2 dX7_closing_19
def v_s_X7_fillRow : List Cond := Cond.code yX7_fillRow cX7_fillRow 4 none :: ([Cond.fieldLink RX7 53 "MayRings$Ways" "start" "I", Cond.fieldLink RX7 27 "MayRings$Ways" "ahead" "[I", Cond.fieldLink RX7 30 "MayRings$Ways" "houses" "I", Cond.methodLink RX7 103 yX7_onward, Cond.instanceMethod yX7_onward, Cond.selects RX7 yX7_onward yX7_onward, Cond.initialized RX7, Cond.methodLink RX7 100 yX7_closing, Cond.instanceMethod yX7_closing, Cond.selects RX7 yX7_closing yX7_closing] ++ (wsX70 ++ (v_s_X7_onward ++ (v_s_X7_closing ++ ([])))))
theorem k_s_X7_fillRow : GoodIn lw_tbl v_s_X7_fillRow := gd_c (List.mem_of_getElem? (i := 945) (by decide +kernel)) rfl (goodIn_app (gd_c (List.mem_of_getElem? (i := 464) (by decide +kernel)) rfl (gd_c (List.mem_of_getElem? (i := 451) (by decide +kernel)) rfl (gd_c (List.mem_of_getElem? (i := 452) (by decide +kernel)) rfl (gd_c (List.mem_of_getElem? (i := 954) (by decide +kernel)) rfl (gd_c (List.mem_of_getElem? (i := 956) (by decide +kernel)) rfl (gd_c (List.mem_of_getElem? (i := 44) (by decide +kernel)) rfl (gd_c (List.mem_of_getElem? (i := 142) (by decide +kernel)) rfl (gd_c (List.mem_of_getElem? (i := 946) (by decide +kernel)) rfl (gd_c (List.mem_of_getElem? (i := 948) (by decide +kernel)) rfl (gd_c (List.mem_of_getElem? (i := 42) (by decide +kernel)) rfl (gd_nil))))))))))) (goodIn_app kfX7 (goodIn_app k_s_X7_onward (goodIn_app k_s_X7_closing (gd_nil)))))
set_option maxHeartbeats 2000000 in
set_option maxRecDepth 100000 in
theorem c_s_X7_fillRow (l : Launch) (dC : Nat → ClassId) (dI : Nat → Nat → Nat) (cB cI cJ cZ cP : ClassId) (h0 : Nat) (h1 : Nat) (g0 : Nat → Int32) (hg0 : rgA (0) (511) g0) (h2 : Nat) (g1 : Nat → Int32) (hg1 : rgA (0) (511) g1) (h3 : Nat) (g2 : Nat → Int32) (hg2 : rgA (0) (511) g2) (h4 : Nat) (g3 : Nat → Int32) (h5 : Nat) (g4 : Nat → Int32) (h6 : Nat) (g5 : Nat → Int32) (a0 : Int32) (ha0 : rg (0) (511) a0) (a1 : Int32) (ha1 : rg (0) (9) a1) (a2 : Int32) (ha2 : rg (0) (1) a2) (a3 : Int32) (a4 : Int32) (a5 : Int32) (ha5 : rg (0) (2) a5) (a6 : Int32) (a7 : Int32) (ha7 : rg (0) (8) a7) (p0 : Int32) (hp0 : rg (0) (511) p0) (sz : Nat) : Met l yX7_fillRow v_s_X7_fillRow ({ frames := 3, cells := 0, slots := 0, locals := 73 }) (va_Pc [.ref h0, .int p0] (fun U => U.heap.size = sz ∧ va_P (dC, dI) vwCl [(h0, .inr (7, [.ref h1, .ref h2, .ref h3, .ref h4, .ref h5, .ref h6, .int a0, .int a1, .int a2, .int a3, .int a4, .int a5, .int a6, .int a7])), (h1, .inl (cI, 9, .inl g0)), (h2, .inl (cI, 9, .inl g1)), (h3, .inl (cI, 9, .inl g2)), (h4, .inl (cI, 81, .inl g3)), (h5, .inl (cI, 81, .inl g4)), (h6, .inl (cI, 4608, .inl g5))] U.heap ∧ va_K (dC, dI) vwCl (ty5 cB cI cJ cZ cP) U ∧ va_D (fun _ => True) [(h0, .inr (7, [.ref h1, .ref h2, .ref h3, .ref h4, .ref h5, .ref h6, .int a0, .int a1, .int a2, .int a3, .int a4, .int a5, .int a6, .int a7])), (h1, .inl (cI, 9, .inl g0)), (h2, .inl (cI, 9, .inl g1)), (h3, .inl (cI, 9, .inl g2)), (h4, .inl (cI, 81, .inl g3)), (h5, .inl (cI, 81, .inl g4)), (h6, .inl (cI, 4608, .inl g5))])) (va_Qv (fun _ : Unit => True) (fun _ t => ∃ (z0 : Nat → Int32), va_P (dC, dI) vwCl [(h0, .inr (7, [.ref h1, .ref h2, .ref h3, .ref h4, .ref h5, .ref h6, .int a0, .int a1, .int a2, .int a3, .int a4, .int a5, .int a6, .int a7])), (h1, .inl (cI, 9, .inl g0)), (h2, .inl (cI, 9, .inl g1)), (h3, .inl (cI, 9, .inl g2)), (h4, .inl (cI, 81, .inl g3)), (h5, .inl (cI, 81, .inl g4)), (h6, .inl (cI, 4608, .inl z0))] t.heap ∧ va_D (va_A [(h0, .inr (7, [.ref h1, .ref h2, .ref h3, .ref h4, .ref h5, .ref h6, .int a0, .int a1, .int a2, .int a3, .int a4, .int a5, .int a6, .int a7])), (h1, .inl (cI, 9, .inl g0)), (h2, .inl (cI, 9, .inl g1)), (h3, .inl (cI, 9, .inl g2)), (h4, .inl (cI, 81, .inl g3)), (h5, .inl (cI, 81, .inl g4)), (h6, .inl (cI, 4608, .inl g5))] sz) [(h0, .inr (7, [.ref h1, .ref h2, .ref h3, .ref h4, .ref h5, .ref h6, .int a0, .int a1, .int a2, .int a3, .int a4, .int a5, .int a6, .int a7])), (h1, .inl (cI, 9, .inl g0)), (h2, .inl (cI, 9, .inl g1)), (h3, .inl (cI, 9, .inl g2)), (h4, .inl (cI, 81, .inl g3)), (h5, .inl (cI, 81, .inl g4)), (h6, .inl (cI, 4608, .inl z0))]) (va_A [(h0, .inr (7, [.ref h1, .ref h2, .ref h3, .ref h4, .ref h5, .ref h6, .int a0, .int a1, .int a2, .int a3, .int a4, .int a5, .int a6, .int a7])), (h1, .inl (cI, 9, .inl g0)), (h2, .inl (cI, 9, .inl g1)), (h3, .inl (cI, 9, .inl g2)), (h4, .inl (cI, 81, .inl g3)), (h5, .inl (cI, 81, .inl g4)), (h6, .inl (cI, 4608, .inl g5))] sz)) 0 0 (va_A [(h0, .inr (7, [.ref h1, .ref h2, .ref h3, .ref h4, .ref h5, .ref h6, .int a0, .int a1, .int a2, .int a3, .int a4, .int a5, .int a6, .int a7])), (h1, .inl (cI, 9, .inl g0)), (h2, .inl (cI, 9, .inl g1)), (h3, .inl (cI, 9, .inl g2)), (h4, .inl (cI, 81, .inl g3)), (h5, .inl (cI, 81, .inl g4)), (h6, .inl (cI, 4608, .inl g5))] sz) := by
  refine Met.ofW (cc := cX7_fillRow) (maxL := 4) (ret := none) (by decide) rfl ?_
  intro p e s m args below meth c s₁ B hml hv
  obtain ⟨rfl, hsz, hP, hK, hD0⟩ := hv
  have hx := B.exec
  have hb := B.bytes
  have hr := B.returns
  have hts := atoms_spec (ws := v_s_X7_fillRow) B.pre
  have hown : s.vm.findClass RX7 = some m.cls := findClass_of_methodNamed B.named
  have hlocks := B.notSynchronized
  have hinX7 : ∀ w ∈ wsX70, w ∈ v_s_X7_fillRow := fun _ h => List.mem_cons_of_mem _ (List.mem_append_right _ (List.mem_append_left _ h))
  subst hsz
  have hD := hD0.self (sz := s.heap.size)
  generalize hAe : va_A [(h0, .inr (7, [.ref h1, .ref h2, .ref h3, .ref h4, .ref h5, .ref h6, .int a0, .int a1, .int a2, .int a3, .int a4, .int a5, .int a6, .int a7])), (h1, .inl (cI, 9, .inl g0)), (h2, .inl (cI, 9, .inl g1)), (h3, .inl (cI, 9, .inl g2)), (h4, .inl (cI, 81, .inl g3)), (h5, .inl (cI, 81, .inl g4)), (h6, .inl (cI, 4608, .inl g5))] s.heap.size = A at hD ⊢
  have hA : ∀ q : Nat, s.heap.size ≤ q → A q := fun q h => by rw [← hAe]; exact Or.inr h
  have hP : va_P (dC, dI) vwCl [(h0, .inr (7, [.ref h1, .ref h2, .ref h3, .ref h4, .ref h5, .ref h6, .int a0, .int a1, .int a2, .int a3, .int a4, .int a5, .int a6, .int a7])), (h1, .inl (cI, 9, .inl g0)), (h2, .inl (cI, 9, .inl g1)), (h3, .inl (cI, 9, .inl g2)), (h4, .inl (cI, 81, .inl g3)), (h5, .inl (cI, 81, .inl g4)), (h6, .inl (cI, 4608, .inl g5))] s.heap := hP
  have hl := lv_entry ([.ref h0, .int p0]) (n := 4) (Nat.le_of_ble_eq_true rfl)
  rw [lg_entry_eq]
  generalize (lg_sl ([.ref h0, .int p0]) ++ List.replicate (4 - (lg_sl ([.ref h0, .int p0])).length) Slot.unset).toArray = ls at hl ⊢
  have hl : lv_has ls 4 [(0, .ref h0), (1, .int p0)] := hl
  refine W_gen (A := A) hP (fun H locs hP hS => ?_)
  refine lv_iload_n hx hb dX7_fillRow_0 rfl (lv_at hl 1 rfl) ?_
  refine lv_iconst (v := 1) hx hb dX7_fillRow_1 (by decide) ?_
  refine lv_aload_n hx hb dX7_fillRow_2 rfl (lv_at hl 0 rfl) ?_
  refine va_get (D := (dC, dI)) (ci := 7) (v := .int a7) (C := RX7) (T := TX7) (N := 14) hx hb hts hinX7 hown hK hP 0 rfl rfl 13 (by decide) (hts (.fieldLink RX7 53 "MayRings$Ways" "start" "I") (List.mem_of_getElem? (i := 1) rfl)) (fun _ h9 => h9) rfl dX7_fillRow_3 ?_
  refine lv_ishl hx hb dX7_fillRow_6 ?_
  refine lv_topi (fun x_1 ex_1 => ?_)
  have hx_1 : rg (1) (256) x_1 := by rw [ex_1]; exact rg_mono (rg_shl1 8 (rg_mono ha7 (by decide) (by decide)) (by decide)) (by decide) (by decide)
  refine lv_icmp_ne (tgt := 14) hx hb dX7_fillRow_7 (by decide) (fun c_2 => ?_) (fun c_2 => ?_)
  · skip
    refine lv_iconst (v := 0) hx hb dX7_fillRow_14 (by decide) ?_
    refine lv_istore_n (lv' := [(2, .int 0), (0, .ref h0), (1, .int p0)]) hx hb dX7_fillRow_15 rfl hl (by decide) rfl (fun ls hl => ?_)
    refine lv_iconst (v := 0) hx hb dX7_fillRow_16 (by decide) ?_
    refine lv_istore_n (lv' := [(3, .int 0), (2, .int 0), (0, .ref h0), (1, .int p0)]) hx hb dX7_fillRow_17 rfl hl (by decide) rfl (fun ls hl => ?_)
    refine W_loopM (σ := Int32 × (Nat → Int32)) (fun u H locs ls => va_P (dC, dI) vwCl [(h0, .inr (7, [.ref h1, .ref h2, .ref h3, .ref h4, .ref h5, .ref h6, .int a0, .int a1, .int a2, .int a3, .int a4, .int a5, .int a6, .int a7])), (h1, .inl (cI, 9, .inl g0)), (h2, .inl (cI, 9, .inl g1)), (h3, .inl (cI, 9, .inl g2)), (h4, .inl (cI, 81, .inl g3)), (h5, .inl (cI, 81, .inl g4)), (h6, .inl (cI, 4608, .inl u.2))] H ∧ va_D A [(h0, .inr (7, [.ref h1, .ref h2, .ref h3, .ref h4, .ref h5, .ref h6, .int a0, .int a1, .int a2, .int a3, .int a4, .int a5, .int a6, .int a7])), (h1, .inl (cI, 9, .inl g0)), (h2, .inl (cI, 9, .inl g1)), (h3, .inl (cI, 9, .inl g2)), (h4, .inl (cI, 81, .inl g3)), (h5, .inl (cI, 81, .inl g4)), (h6, .inl (cI, 4608, .inl u.2))] ∧ va_S A s.heap H locs ∧ lv_has ls 4 [(3, .int u.1), (2, .int 0), (0, .ref h0), (1, .int p0)] ∧ rg (0) (9) u.1) (fun u => ((9) - u.1.toInt).toNat) 18 [] ?_ (0, g5) H locs ls ⟨hP, hD, hS, hl, (rg_mono (rg_k (x := 0) (c := 0) (by decide)) (by decide) (by decide))⟩
    rintro ⟨x_212, f_213⟩ H locs ls ⟨hP, hD, hS, hl, hx_212⟩ ih_237
    replace hP : va_P (dC, dI) vwCl [(h0, .inr (7, [.ref h1, .ref h2, .ref h3, .ref h4, .ref h5, .ref h6, .int a0, .int a1, .int a2, .int a3, .int a4, .int a5, .int a6, .int a7])), (h1, .inl (cI, 9, .inl g0)), (h2, .inl (cI, 9, .inl g1)), (h3, .inl (cI, 9, .inl g2)), (h4, .inl (cI, 81, .inl g3)), (h5, .inl (cI, 81, .inl g4)), (h6, .inl (cI, 4608, .inl f_213))] H := hP
    replace hD : va_D A [(h0, .inr (7, [.ref h1, .ref h2, .ref h3, .ref h4, .ref h5, .ref h6, .int a0, .int a1, .int a2, .int a3, .int a4, .int a5, .int a6, .int a7])), (h1, .inl (cI, 9, .inl g0)), (h2, .inl (cI, 9, .inl g1)), (h3, .inl (cI, 9, .inl g2)), (h4, .inl (cI, 81, .inl g3)), (h5, .inl (cI, 81, .inl g4)), (h6, .inl (cI, 4608, .inl f_213))] := hD
    replace hl : lv_has ls 4 [(3, .int x_212), (2, .int 0), (0, .ref h0), (1, .int p0)] := hl
    replace hx_212 : rg (0) (9) x_212 := hx_212
    refine lv_iload_n hx hb dX7_fillRow_18 rfl (lv_at hl 0 rfl) ?_
    refine lv_bipush (v := 9) hx hb dX7_fillRow_19 (by decide) ?_
    refine lv_icmp_ge (tgt := 84) hx hb dX7_fillRow_21 (by decide) (fun c_238 => ?_) (fun c_238 => ?_)
    · skip
      have h_239 : rg (9) (9) x_212 := by have ha := hx_212; have hb_ := (rg_k (x := 9) (c := 9) (by decide)); simp only [rg, fa_lt, fa_le, fa_eq, (by decide : (9 : Int32).toInt = 9)] at ha hb_ c_238; simp only [rg]; omega
      have hP9 := hP.sub (ws' := [(h0, .inr (7, [.ref h1, .ref h2, .ref h3, .ref h4, .ref h5, .ref h6, .int a0, .int a1, .int a2, .int a3, .int a4, .int a5, .int a6, .int a7])), (h1, .inl (cI, 9, .inl g0)), (h2, .inl (cI, 9, .inl g1)), (h3, .inl (cI, 9, .inl g2)), (h4, .inl (cI, 81, .inl g3)), (h5, .inl (cI, 81, .inl g4)), (h6, .inl (cI, 4608, .inl f_213))]) [0, 1, 2, 3, 4, 5, 6] rfl
      have hD9 := hD.sub (ws' := [(h0, .inr (7, [.ref h1, .ref h2, .ref h3, .ref h4, .ref h5, .ref h6, .int a0, .int a1, .int a2, .int a3, .int a4, .int a5, .int a6, .int a7])), (h1, .inl (cI, 9, .inl g0)), (h2, .inl (cI, 9, .inl g1)), (h3, .inl (cI, 9, .inl g2)), (h4, .inl (cI, 81, .inl g3)), (h5, .inl (cI, 81, .inl g4)), (h6, .inl (cI, 4608, .inl f_213))]) [0, 1, 2, 3, 4, 5, 6] (by decide) rfl
      exact W.vret hx hb hr (fun t ht hW => ⟨⟨(), rfl, trivial, ⟨f_213, by rw [ht]; exact hP9, hD9⟩⟩, hS.F ht⟩) hS.2.2 dX7_fillRow_84
    · skip
      have h_240 : rg (0) (8) x_212 := by have ha := hx_212; have hb_ := (rg_k (x := 9) (c := 9) (by decide)); simp only [rg, fa_lt, fa_le, fa_eq, (by decide : (9 : Int32).toInt = 9)] at ha hb_ c_238; simp only [rg]; omega
      refine lv_iload_n hx hb dX7_fillRow_24 rfl (lv_at hl 3 rfl) ?_
      refine lv_iload_n hx hb dX7_fillRow_25 rfl (lv_at hl 0 rfl) ?_
      refine lv_ishr hx hb dX7_fillRow_26 ?_
      refine lv_topi (fun x_241 ex_241 => ?_)
      have hx_241 : rg (0) (511) x_241 := by rw [ex_241]; exact rg_mono (rg_shr (b := 511) (rg_mono hp0 (by decide) (by decide))) (by decide) (by decide)
      have kx_241_0 : rg 1 2147483647 x_241 → rg 1 (511) p0 := fun hq => rg_shrP hp0 (ex_241 ▸ hq)
      refine lv_iconst (v := 1) hx hb dX7_fillRow_27 (by decide) ?_
      refine lv_iand hx hb dX7_fillRow_28 ?_
      refine lv_topi (fun x_242 ex_242 => ?_)
      have hx_242 : rg (0) (1) x_242 := by rw [ex_242]; exact rg_mono (rg_andr (b := 1) (rg_mono (rg_k (x := 1) (c := 1) (by decide)) (by decide) (by decide))) (by decide) (by decide)
      have kx_242_0 : rg 1 2147483647 x_242 → rg 1 (511) x_241 := fun hq => rg_andP hx_241 (ex_242 ▸ hq)
      refine lv_iconst (v := 1) hx hb dX7_fillRow_29 (by decide) ?_
      refine lv_icmp_ne (tgt := 78) hx hb dX7_fillRow_30 (by decide) (fun c_243 => ?_) (fun c_243 => ?_)
      · skip
        have h_244 : rg (0) (0) x_242 := by have ha := hx_242; have hb_ := (rg_k (x := 1) (c := 1) (by decide)); simp only [rg, fa_lt, fa_le, fa_eq, (by decide : (1 : Int32).toInt = 1)] at ha hb_ c_243; simp only [rg]; omega
        obtain ⟨x_245, ex_245⟩ : ∃ y : Int32, y = x_212 + Int32.ofInt (1) := ⟨_, rfl⟩
        have hx_245 : rg (1) (9) x_245 := by rw [ex_245]; exact rg_mono (rg_add h_240 (rg_k (x := Int32.ofInt (1)) (c := 1) (by decide)) (by decide) (by decide)) (by decide) (by decide)
        have qx_245 : x_245.toInt = x_212.toInt + (1) := by rw [ex_245]; exact rg_addE h_240 (rg_k (x := Int32.ofInt (1)) (c := 1) (by decide)) (by decide) (by decide) (by decide)
        refine lv_iinc (v := x_245) (lv' := [(3, .int x_245), (2, .int 0), (0, .ref h0), (1, .int p0)]) hx hb dX7_fillRow_78 hl (k := 0) rfl (ex_245.symm) (by decide) rfl (fun ls hl => ?_)
        clear ex_245
        refine lv_goto (tgt := 18) hx hb dX7_fillRow_81 (by decide) ?_
        exact ih_237 (x_245, f_213) H locs ls ⟨hP.sub (ws' := [(h0, .inr (7, [.ref h1, .ref h2, .ref h3, .ref h4, .ref h5, .ref h6, .int a0, .int a1, .int a2, .int a3, .int a4, .int a5, .int a6, .int a7])), (h1, .inl (cI, 9, .inl g0)), (h2, .inl (cI, 9, .inl g1)), (h3, .inl (cI, 9, .inl g2)), (h4, .inl (cI, 81, .inl g3)), (h5, .inl (cI, 81, .inl g4)), (h6, .inl (cI, 4608, .inl f_213))]) [0, 1, 2, 3, 4, 5, 6] rfl, hD.sub (ws' := [(h0, .inr (7, [.ref h1, .ref h2, .ref h3, .ref h4, .ref h5, .ref h6, .int a0, .int a1, .int a2, .int a3, .int a4, .int a5, .int a6, .int a7])), (h1, .inl (cI, 9, .inl g0)), (h2, .inl (cI, 9, .inl g1)), (h3, .inl (cI, 9, .inl g2)), (h4, .inl (cI, 81, .inl g3)), (h5, .inl (cI, 81, .inl g4)), (h6, .inl (cI, 4608, .inl f_213))]) [0, 1, 2, 3, 4, 5, 6] (by decide) rfl, hS, lv_sub hl [0, 1, 2, 3] rfl, (rg_mono hx_245 (by decide) (by decide))⟩ (by show ((9) - x_245.toInt).toNat < ((9) - x_212.toInt).toNat; have ha := h_240; simp only [rg] at ha; omega)
      · skip
        have h_246 : rg (1) (1) x_242 := by have ha := hx_242; have hb_ := (rg_k (x := 1) (c := 1) (by decide)); simp only [rg, fa_lt, fa_le, fa_eq, (by decide : (1 : Int32).toInt = 1)] at ha hb_ c_243; simp only [rg]; omega
        have h_247 : rg (1) (511) x_241 := rg_meet hx_241 (kx_242_0 (rg_mono h_246 (by decide) (by decide))) (by decide) (by decide)
        have h_248 : rg (1) (511) p0 := rg_meet hp0 (kx_241_0 (rg_mono h_247 (by decide) (by decide))) (by decide) (by decide)
        refine lv_iload_n hx hb dX7_fillRow_33 rfl (lv_at hl 0 rfl) ?_
        refine lv_aload_n hx hb dX7_fillRow_34 rfl (lv_at hl 2 rfl) ?_
        refine va_get (D := (dC, dI)) (ci := 7) (v := .int a7) (C := RX7) (T := TX7) (N := 14) hx hb hts hinX7 hown hK hP 0 rfl rfl 13 (by decide) (hts (.fieldLink RX7 53 "MayRings$Ways" "start" "I") (List.mem_of_getElem? (i := 1) rfl)) (fun _ h9 => h9) rfl dX7_fillRow_35 ?_
        refine lv_icmp_ne (tgt := 45) hx hb dX7_fillRow_38 (by decide) (fun c_249 => ?_) (fun c_249 => ?_)
        · skip
          refine lv_aload_n hx hb dX7_fillRow_45 rfl (lv_at hl 2 rfl) ?_
          refine va_get (D := (dC, dI)) (ci := 7) (v := .ref h6) (C := RX7) (T := TX7) (N := 14) hx hb hts hinX7 hown hK hP 0 rfl rfl 5 (by decide) (hts (.fieldLink RX7 27 "MayRings$Ways" "ahead" "[I") (List.mem_of_getElem? (i := 2) rfl)) (fun _ h9 => h9) rfl dX7_fillRow_46 ?_
          refine lv_iload_n hx hb dX7_fillRow_49 rfl (lv_at hl 3 rfl) ?_
          refine lv_bipush (v := 9) hx hb dX7_fillRow_50 (by decide) ?_
          refine lv_imul hx hb dX7_fillRow_52 ?_
          refine lv_topi (fun x_250 ex_250 => ?_)
          have hx_250 : rg (9) (4599) x_250 := by rw [ex_250]; exact rg_mono (rg_mul h_248 (rg_k (x := 9) (c := 9) (by decide)) (by decide) (by decide) (by decide)) (by decide) (by decide)
          refine lv_iload_n hx hb dX7_fillRow_53 rfl (lv_at hl 0 rfl) ?_
          refine lv_iadd hx hb dX7_fillRow_54 ?_
          refine lv_topi (fun x_251 ex_251 => ?_)
          have hx_251 : rg (9) (4607) x_251 := by rw [ex_251]; exact rg_mono (rg_add hx_250 h_240 (by decide) (by decide)) (by decide) (by decide)
          have qx_251 : x_251.toInt = x_250.toInt + x_212.toInt := by rw [ex_251]; exact rg_addQ hx_250 h_240 (by decide) (by decide)
          refine lv_iload_n hx hb dX7_fillRow_55 rfl (lv_at hl 3 rfl) ?_
          refine lv_aload_n hx hb dX7_fillRow_56 rfl (lv_at hl 2 rfl) ?_
          refine va_get (D := (dC, dI)) (ci := 7) (v := .int a0) (C := RX7) (T := TX7) (N := 14) hx hb hts hinX7 hown hK hP 0 rfl rfl 6 (by decide) (hts (.fieldLink RX7 30 "MayRings$Ways" "houses" "I") (List.mem_of_getElem? (i := 3) rfl)) (fun _ h9 => h9) rfl dX7_fillRow_57 ?_
          refine lv_icmp_ne (tgt := 71) hx hb dX7_fillRow_60 (by decide) (fun c_252 => ?_) (fun c_252 => ?_)
          · skip
            refine lv_aload_n hx hb dX7_fillRow_71 rfl (lv_at hl 2 rfl) ?_
            refine lv_iload_n hx hb dX7_fillRow_72 rfl (lv_at hl 3 rfl) ?_
            refine lv_iload_n hx hb dX7_fillRow_73 rfl (lv_at hl 0 rfl) ?_
            have hPc := hP.sub (ws' := [(h0, .inr (7, [.ref h1, .ref h2, .ref h3, .ref h4, .ref h5, .ref h6, .int a0, .int a1, .int a2, .int a3, .int a4, .int a5, .int a6, .int a7])), (h1, .inl (cI, 9, .inl g0)), (h2, .inl (cI, 9, .inl g1)), (h3, .inl (cI, 9, .inl g2)), (h4, .inl (cI, 81, .inl g3)), (h5, .inl (cI, 81, .inl g4)), (h6, .inl (cI, 4608, .inl f_213))]) [0, 1, 2, 3, 4, 5, 6] rfl
            have hDc := hD.sub (ws' := [(h0, .inr (7, [.ref h1, .ref h2, .ref h3, .ref h4, .ref h5, .ref h6, .int a0, .int a1, .int a2, .int a3, .int a4, .int a5, .int a6, .int a7])), (h1, .inl (cI, 9, .inl g0)), (h2, .inl (cI, 9, .inl g1)), (h3, .inl (cI, 9, .inl g2)), (h4, .inl (cI, 81, .inl g3)), (h5, .inl (cI, 81, .inl g4)), (h6, .inl (cI, 4608, .inl f_213))]) [0, 1, 2, 3, 4, 5, 6] (by decide) rfl
            have hFc := va_free (wc := [(h0, .inr (7, [.ref h1, .ref h2, .ref h3, .ref h4, .ref h5, .ref h6, .int a0, .int a1, .int a2, .int a3, .int a4, .int a5, .int a6, .int a7])), (h1, .inl (cI, 9, .inl g0)), (h2, .inl (cI, 9, .inl g1)), (h3, .inl (cI, 9, .inl g2)), (h4, .inl (cI, 81, .inl g3)), (h5, .inl (cI, 81, .inl g4)), (h6, .inl (cI, 4608, .inl f_213))]) hD hS hA [0, 1, 2, 3, 4, 5, 6] rfl
            refine va_calli (va_runV (As := [.int p0, .int x_212]) (rest := [.int x_251, .ref h6]) ⟨hx, hb, hml, hown, hts⟩ (c_s_X7_onward l dC dI cB cI cJ cZ cP h0 h1 g0 hg0 h2 g1 hg1 h3 g2 hg2 h4 g3 h5 g4 h6 f_213 a0 a1 (rg_mono ha1 (by decide) (by decide)) a2 (rg_mono ha2 (by decide) (by decide)) a3 a4 a5 (rg_mono ha5 (by decide) (by decide)) a6 a7 (rg_mono ha7 (by decide) (by decide)) p0 (rg_mono h_248 (by decide) (by decide)) x_212 (rg_mono h_240 (by decide) (by decide)) H.size) (cwV 2 hts (gd_V (List.mem_of_getElem? (i := 4) rfl) (List.mem_of_getElem? (i := 5) rfl) (List.mem_of_getElem? (i := 6) rfl) (List.mem_of_getElem? (i := 7) rfl) (gd_mono k_s_X7_onward (fun _ h => List.mem_cons_of_mem _ (List.mem_append_right _ (List.mem_append_right _ (List.mem_append_left _ h)))))) rfl rfl rfl (by decide +kernel) ⟨Nat.le_of_ble_eq_true rfl, Nat.le_of_ble_eq_true rfl⟩) ⟨fun a U g mk q => by obtain ⟨q0, q1, qP, qK, qD⟩ := q; exact ⟨q0, q1, qP, va_K.moved (u := U) (U := U.calling g mk a) (Vm.Alike.refl U.vm) qK, qD⟩, va_recv hK hPc (ci := 7) (q0 := 0) rfl rfl, fun U hU hW => ⟨rfl, by rw [hU], by rw [hU]; exact hPc, va_K.moved hW.alike hK, hDc.weaken (fun _ _ _ _ => trivial)⟩⟩ rfl rfl hl.1 rfl (lv_room (Nat.le_of_ble_eq_true rfl)) dX7_fillRow_74 ⟨Nat.le_of_ble_eq_true rfl, Nat.le_of_ble_eq_true rfl⟩) hS (fun q _ h => hFc q h) hFc (fun r_253 u t H1 locs ht hvm hw hB hz1 hk1 hS => ?_)
            obtain ⟨hP1, hD1⟩ := hB
            rw [ht] at hP1
            obtain ⟨hP, hD⟩ := va_join (wr := []) (w1 := [(h0, .inr (7, [.ref h1, .ref h2, .ref h3, .ref h4, .ref h5, .ref h6, .int a0, .int a1, .int a2, .int a3, .int a4, .int a5, .int a6, .int a7])), (h1, .inl (cI, 9, .inl g0)), (h2, .inl (cI, 9, .inl g1)), (h3, .inl (cI, 9, .inl g2)), (h4, .inl (cI, 81, .inl g3)), (h5, .inl (cI, 81, .inl g4)), (h6, .inl (cI, 4608, .inl f_213))]) hP hD [0, 1, 2, 3, 4, 5, 6] [] rfl rfl (by decide) (by decide) hk1 hFc hP1 hD1
            generalize H1 = H at hP hS ⊢
            replace hP : va_P (dC, dI) vwCl [(h0, .inr (7, [.ref h1, .ref h2, .ref h3, .ref h4, .ref h5, .ref h6, .int a0, .int a1, .int a2, .int a3, .int a4, .int a5, .int a6, .int a7])), (h1, .inl (cI, 9, .inl g0)), (h2, .inl (cI, 9, .inl g1)), (h3, .inl (cI, 9, .inl g2)), (h4, .inl (cI, 81, .inl g3)), (h5, .inl (cI, 81, .inl g4)), (h6, .inl (cI, 4608, .inl f_213))] H := hP
            replace hD : va_D A [(h0, .inr (7, [.ref h1, .ref h2, .ref h3, .ref h4, .ref h5, .ref h6, .int a0, .int a1, .int a2, .int a3, .int a4, .int a5, .int a6, .int a7])), (h1, .inl (cI, 9, .inl g0)), (h2, .inl (cI, 9, .inl g1)), (h3, .inl (cI, 9, .inl g2)), (h4, .inl (cI, 81, .inl g3)), (h5, .inl (cI, 81, .inl g4)), (h6, .inl (cI, 4608, .inl f_213))] := hD
            refine va_iast hx hb hK hP hD hS 6 1 rfl rfl (rg_in (n := 4608) (rg_mono hx_251 (by decide) (by decide))) dX7_fillRow_77 (fun H locs hP hD hS => ?_)
            obtain ⟨f_254, ef_254⟩ : ∃ f : Nat → Int32, f = upd f_213 (x_251 : Int32).toNatClampNeg r_253 := ⟨_, rfl⟩
            rw [← ef_254] at hP hD
            clear ef_254
            replace hP : va_P (dC, dI) vwCl [(h0, .inr (7, [.ref h1, .ref h2, .ref h3, .ref h4, .ref h5, .ref h6, .int a0, .int a1, .int a2, .int a3, .int a4, .int a5, .int a6, .int a7])), (h1, .inl (cI, 9, .inl g0)), (h2, .inl (cI, 9, .inl g1)), (h3, .inl (cI, 9, .inl g2)), (h4, .inl (cI, 81, .inl g3)), (h5, .inl (cI, 81, .inl g4)), (h6, .inl (cI, 4608, .inl f_254))] H := hP
            replace hD : va_D A [(h0, .inr (7, [.ref h1, .ref h2, .ref h3, .ref h4, .ref h5, .ref h6, .int a0, .int a1, .int a2, .int a3, .int a4, .int a5, .int a6, .int a7])), (h1, .inl (cI, 9, .inl g0)), (h2, .inl (cI, 9, .inl g1)), (h3, .inl (cI, 9, .inl g2)), (h4, .inl (cI, 81, .inl g3)), (h5, .inl (cI, 81, .inl g4)), (h6, .inl (cI, 4608, .inl f_254))] := hD
            obtain ⟨x_255, ex_255⟩ : ∃ y : Int32, y = x_212 + Int32.ofInt (1) := ⟨_, rfl⟩
            have hx_255 : rg (1) (9) x_255 := by rw [ex_255]; exact rg_mono (rg_add h_240 (rg_k (x := Int32.ofInt (1)) (c := 1) (by decide)) (by decide) (by decide)) (by decide) (by decide)
            have qx_255 : x_255.toInt = x_212.toInt + (1) := by rw [ex_255]; exact rg_addE h_240 (rg_k (x := Int32.ofInt (1)) (c := 1) (by decide)) (by decide) (by decide) (by decide)
            refine lv_iinc (v := x_255) (lv' := [(3, .int x_255), (2, .int 0), (0, .ref h0), (1, .int p0)]) hx hb dX7_fillRow_78 hl (k := 0) rfl (ex_255.symm) (by decide) rfl (fun ls hl => ?_)
            clear ex_255
            refine lv_goto (tgt := 18) hx hb dX7_fillRow_81 (by decide) ?_
            exact ih_237 (x_255, f_254) H locs ls ⟨hP.sub (ws' := [(h0, .inr (7, [.ref h1, .ref h2, .ref h3, .ref h4, .ref h5, .ref h6, .int a0, .int a1, .int a2, .int a3, .int a4, .int a5, .int a6, .int a7])), (h1, .inl (cI, 9, .inl g0)), (h2, .inl (cI, 9, .inl g1)), (h3, .inl (cI, 9, .inl g2)), (h4, .inl (cI, 81, .inl g3)), (h5, .inl (cI, 81, .inl g4)), (h6, .inl (cI, 4608, .inl f_254))]) [0, 1, 2, 3, 4, 5, 6] rfl, hD.sub (ws' := [(h0, .inr (7, [.ref h1, .ref h2, .ref h3, .ref h4, .ref h5, .ref h6, .int a0, .int a1, .int a2, .int a3, .int a4, .int a5, .int a6, .int a7])), (h1, .inl (cI, 9, .inl g0)), (h2, .inl (cI, 9, .inl g1)), (h3, .inl (cI, 9, .inl g2)), (h4, .inl (cI, 81, .inl g3)), (h5, .inl (cI, 81, .inl g4)), (h6, .inl (cI, 4608, .inl f_254))]) [0, 1, 2, 3, 4, 5, 6] (by decide) rfl, hS, lv_sub hl [0, 1, 2, 3] rfl, (rg_mono hx_255 (by decide) (by decide))⟩ (by show ((9) - x_255.toInt).toNat < ((9) - x_212.toInt).toNat; have ha := h_240; simp only [rg] at ha; omega)
          · skip
            have h_256 : rg (1) (511) a0 := by have ha := h_248; have hb_ := ha0; simp only [rg, fa_lt, fa_le, fa_eq] at ha hb_ c_252; simp only [rg]; omega
            refine lv_aload_n hx hb dX7_fillRow_63 rfl (lv_at hl 2 rfl) ?_
            refine lv_iload_n hx hb dX7_fillRow_64 rfl (lv_at hl 0 rfl) ?_
            have hPc := hP.sub (ws' := [(h0, .inr (7, [.ref h1, .ref h2, .ref h3, .ref h4, .ref h5, .ref h6, .int a0, .int a1, .int a2, .int a3, .int a4, .int a5, .int a6, .int a7])), (h2, .inl (cI, 9, .inl g1)), (h4, .inl (cI, 81, .inl g3))]) [0, 2, 4] rfl
            have hDc := hD.sub (ws' := [(h0, .inr (7, [.ref h1, .ref h2, .ref h3, .ref h4, .ref h5, .ref h6, .int a0, .int a1, .int a2, .int a3, .int a4, .int a5, .int a6, .int a7])), (h2, .inl (cI, 9, .inl g1)), (h4, .inl (cI, 81, .inl g3))]) [0, 2, 4] (by decide) rfl
            have hFc := va_free (wc := [(h0, .inr (7, [.ref h1, .ref h2, .ref h3, .ref h4, .ref h5, .ref h6, .int a0, .int a1, .int a2, .int a3, .int a4, .int a5, .int a6, .int a7])), (h2, .inl (cI, 9, .inl g1)), (h4, .inl (cI, 81, .inl g3))]) hD hS hA [0, 2, 4] rfl
            refine va_calli (va_runV (As := [.int x_212]) (rest := [.int x_251, .ref h6]) ⟨hx, hb, hml, hown, hts⟩ (c_s_X7_closing l dC dI cB cI cJ cZ cP h0 h1 h2 g1 hg1 h3 h4 g3 h5 h6 a0 a1 a2 (rg_mono ha2 (by decide) (by decide)) a3 a4 a5 (rg_mono ha5 (by decide) (by decide)) a6 a7 (rg_mono ha7 (by decide) (by decide)) x_212 (rg_mono h_240 (by decide) (by decide)) H.size) (cwV 1 hts (gd_V (List.mem_of_getElem? (i := 8) rfl) (List.mem_of_getElem? (i := 9) rfl) (List.mem_of_getElem? (i := 10) rfl) (List.mem_of_getElem? (i := 7) rfl) (gd_mono k_s_X7_closing (fun _ h => List.mem_cons_of_mem _ (List.mem_append_right _ (List.mem_append_right _ (List.mem_append_right _ (List.mem_append_left _ h))))))) rfl rfl rfl (by decide +kernel) ⟨Nat.le_of_ble_eq_true rfl, Nat.le_of_ble_eq_true rfl⟩) ⟨fun a U g mk q => by obtain ⟨q0, q1, qP, qK, qD⟩ := q; exact ⟨q0, q1, qP, va_K.moved (u := U) (U := U.calling g mk a) (Vm.Alike.refl U.vm) qK, qD⟩, va_recv hK hPc (ci := 7) (q0 := 0) rfl rfl, fun U hU hW => ⟨rfl, by rw [hU], by rw [hU]; exact hPc, va_K.moved hW.alike hK, hDc.weaken (fun _ _ _ _ => trivial)⟩⟩ rfl rfl hl.1 rfl (lv_room (Nat.le_of_ble_eq_true rfl)) dX7_fillRow_65 ⟨Nat.le_of_ble_eq_true rfl, Nat.le_of_ble_eq_true rfl⟩) hS (fun q _ h => hFc q h) hFc (fun r_257 u t H1 locs ht hvm hw hB hz1 hk1 hS => ?_)
            obtain ⟨hP1, hD1⟩ := hB
            rw [ht] at hP1
            obtain ⟨hP, hD⟩ := va_join (wr := [(h1, .inl (cI, 9, .inl g0)), (h3, .inl (cI, 9, .inl g2)), (h5, .inl (cI, 81, .inl g4)), (h6, .inl (cI, 4608, .inl f_213))]) (w1 := [(h0, .inr (7, [.ref h1, .ref h2, .ref h3, .ref h4, .ref h5, .ref h6, .int a0, .int a1, .int a2, .int a3, .int a4, .int a5, .int a6, .int a7])), (h2, .inl (cI, 9, .inl g1)), (h4, .inl (cI, 81, .inl g3))]) hP hD [0, 2, 4] [1, 3, 5, 6] rfl rfl (by decide) (by decide) hk1 hFc hP1 hD1
            generalize H1 = H at hP hS ⊢
            replace hP : va_P (dC, dI) vwCl [(h1, .inl (cI, 9, .inl g0)), (h3, .inl (cI, 9, .inl g2)), (h5, .inl (cI, 81, .inl g4)), (h6, .inl (cI, 4608, .inl f_213)), (h0, .inr (7, [.ref h1, .ref h2, .ref h3, .ref h4, .ref h5, .ref h6, .int a0, .int a1, .int a2, .int a3, .int a4, .int a5, .int a6, .int a7])), (h2, .inl (cI, 9, .inl g1)), (h4, .inl (cI, 81, .inl g3))] H := hP
            replace hD : va_D A [(h1, .inl (cI, 9, .inl g0)), (h3, .inl (cI, 9, .inl g2)), (h5, .inl (cI, 81, .inl g4)), (h6, .inl (cI, 4608, .inl f_213)), (h0, .inr (7, [.ref h1, .ref h2, .ref h3, .ref h4, .ref h5, .ref h6, .int a0, .int a1, .int a2, .int a3, .int a4, .int a5, .int a6, .int a7])), (h2, .inl (cI, 9, .inl g1)), (h4, .inl (cI, 81, .inl g3))] := hD
            refine lv_goto (tgt := 77) hx hb dX7_fillRow_68 (by decide) ?_
            refine va_iast hx hb hK hP hD hS 3 1 rfl rfl (rg_in (n := 4608) (rg_mono hx_251 (by decide) (by decide))) dX7_fillRow_77 (fun H locs hP hD hS => ?_)
            obtain ⟨f_258, ef_258⟩ : ∃ f : Nat → Int32, f = upd f_213 (x_251 : Int32).toNatClampNeg r_257 := ⟨_, rfl⟩
            rw [← ef_258] at hP hD
            clear ef_258
            replace hP : va_P (dC, dI) vwCl [(h1, .inl (cI, 9, .inl g0)), (h3, .inl (cI, 9, .inl g2)), (h5, .inl (cI, 81, .inl g4)), (h6, .inl (cI, 4608, .inl f_258)), (h0, .inr (7, [.ref h1, .ref h2, .ref h3, .ref h4, .ref h5, .ref h6, .int a0, .int a1, .int a2, .int a3, .int a4, .int a5, .int a6, .int a7])), (h2, .inl (cI, 9, .inl g1)), (h4, .inl (cI, 81, .inl g3))] H := hP
            replace hD : va_D A [(h1, .inl (cI, 9, .inl g0)), (h3, .inl (cI, 9, .inl g2)), (h5, .inl (cI, 81, .inl g4)), (h6, .inl (cI, 4608, .inl f_258)), (h0, .inr (7, [.ref h1, .ref h2, .ref h3, .ref h4, .ref h5, .ref h6, .int a0, .int a1, .int a2, .int a3, .int a4, .int a5, .int a6, .int a7])), (h2, .inl (cI, 9, .inl g1)), (h4, .inl (cI, 81, .inl g3))] := hD
            obtain ⟨x_259, ex_259⟩ : ∃ y : Int32, y = x_212 + Int32.ofInt (1) := ⟨_, rfl⟩
            have hx_259 : rg (1) (9) x_259 := by rw [ex_259]; exact rg_mono (rg_add h_240 (rg_k (x := Int32.ofInt (1)) (c := 1) (by decide)) (by decide) (by decide)) (by decide) (by decide)
            have qx_259 : x_259.toInt = x_212.toInt + (1) := by rw [ex_259]; exact rg_addE h_240 (rg_k (x := Int32.ofInt (1)) (c := 1) (by decide)) (by decide) (by decide) (by decide)
            refine lv_iinc (v := x_259) (lv' := [(3, .int x_259), (2, .int 0), (0, .ref h0), (1, .int p0)]) hx hb dX7_fillRow_78 hl (k := 0) rfl (ex_259.symm) (by decide) rfl (fun ls hl => ?_)
            clear ex_259
            refine lv_goto (tgt := 18) hx hb dX7_fillRow_81 (by decide) ?_
            exact ih_237 (x_259, f_258) H locs ls ⟨hP.sub (ws' := [(h0, .inr (7, [.ref h1, .ref h2, .ref h3, .ref h4, .ref h5, .ref h6, .int a0, .int a1, .int a2, .int a3, .int a4, .int a5, .int a6, .int a7])), (h1, .inl (cI, 9, .inl g0)), (h2, .inl (cI, 9, .inl g1)), (h3, .inl (cI, 9, .inl g2)), (h4, .inl (cI, 81, .inl g3)), (h5, .inl (cI, 81, .inl g4)), (h6, .inl (cI, 4608, .inl f_258))]) [4, 0, 5, 1, 6, 2, 3] rfl, hD.sub (ws' := [(h0, .inr (7, [.ref h1, .ref h2, .ref h3, .ref h4, .ref h5, .ref h6, .int a0, .int a1, .int a2, .int a3, .int a4, .int a5, .int a6, .int a7])), (h1, .inl (cI, 9, .inl g0)), (h2, .inl (cI, 9, .inl g1)), (h3, .inl (cI, 9, .inl g2)), (h4, .inl (cI, 81, .inl g3)), (h5, .inl (cI, 81, .inl g4)), (h6, .inl (cI, 4608, .inl f_258))]) [4, 0, 5, 1, 6, 2, 3] (by decide) rfl, hS, lv_sub hl [0, 1, 2, 3] rfl, (rg_mono hx_259 (by decide) (by decide))⟩ (by show ((9) - x_259.toInt).toNat < ((9) - x_212.toInt).toNat; have ha := h_240; simp only [rg] at ha; omega)
        · skip
          refine lv_iload_n hx hb dX7_fillRow_41 rfl (lv_at hl 1 rfl) ?_
          refine lv_if_eq (tgt := 78) hx hb dX7_fillRow_42 (by decide) (fun _ => ?_) (fun cz => absurd (by decide) cz)
          obtain ⟨x_260, ex_260⟩ : ∃ y : Int32, y = x_212 + Int32.ofInt (1) := ⟨_, rfl⟩
          have hx_260 : rg (1) (9) x_260 := by rw [ex_260]; exact rg_mono (rg_add h_240 (rg_k (x := Int32.ofInt (1)) (c := 1) (by decide)) (by decide) (by decide)) (by decide) (by decide)
          have qx_260 : x_260.toInt = x_212.toInt + (1) := by rw [ex_260]; exact rg_addE h_240 (rg_k (x := Int32.ofInt (1)) (c := 1) (by decide)) (by decide) (by decide) (by decide)
          refine lv_iinc (v := x_260) (lv' := [(3, .int x_260), (2, .int 0), (0, .ref h0), (1, .int p0)]) hx hb dX7_fillRow_78 hl (k := 0) rfl (ex_260.symm) (by decide) rfl (fun ls hl => ?_)
          clear ex_260
          refine lv_goto (tgt := 18) hx hb dX7_fillRow_81 (by decide) ?_
          exact ih_237 (x_260, f_213) H locs ls ⟨hP.sub (ws' := [(h0, .inr (7, [.ref h1, .ref h2, .ref h3, .ref h4, .ref h5, .ref h6, .int a0, .int a1, .int a2, .int a3, .int a4, .int a5, .int a6, .int a7])), (h1, .inl (cI, 9, .inl g0)), (h2, .inl (cI, 9, .inl g1)), (h3, .inl (cI, 9, .inl g2)), (h4, .inl (cI, 81, .inl g3)), (h5, .inl (cI, 81, .inl g4)), (h6, .inl (cI, 4608, .inl f_213))]) [0, 1, 2, 3, 4, 5, 6] rfl, hD.sub (ws' := [(h0, .inr (7, [.ref h1, .ref h2, .ref h3, .ref h4, .ref h5, .ref h6, .int a0, .int a1, .int a2, .int a3, .int a4, .int a5, .int a6, .int a7])), (h1, .inl (cI, 9, .inl g0)), (h2, .inl (cI, 9, .inl g1)), (h3, .inl (cI, 9, .inl g2)), (h4, .inl (cI, 81, .inl g3)), (h5, .inl (cI, 81, .inl g4)), (h6, .inl (cI, 4608, .inl f_213))]) [0, 1, 2, 3, 4, 5, 6] (by decide) rfl, hS, lv_sub hl [0, 1, 2, 3] rfl, (rg_mono hx_260 (by decide) (by decide))⟩ (by show ((9) - x_260.toInt).toNat < ((9) - x_212.toInt).toNat; have ha := h_240; simp only [rg] at ha; omega)
  · skip
    have h_261 : rg (1) (256) p0 := by have ha := hp0; have hb_ := hx_1; simp only [rg, fa_lt, fa_le, fa_eq] at ha hb_ c_2; simp only [rg]; omega
    refine lv_iconst (v := 1) hx hb dX7_fillRow_10 (by decide) ?_
    refine lv_goto (tgt := 15) hx hb dX7_fillRow_11 (by decide) ?_
    refine lv_istore_n (lv' := [(2, .int 1), (0, .ref h0), (1, .int p0)]) hx hb dX7_fillRow_15 rfl hl (by decide) rfl (fun ls hl => ?_)
    refine lv_iconst (v := 0) hx hb dX7_fillRow_16 (by decide) ?_
    refine lv_istore_n (lv' := [(3, .int 0), (2, .int 1), (0, .ref h0), (1, .int p0)]) hx hb dX7_fillRow_17 rfl hl (by decide) rfl (fun ls hl => ?_)
    refine W_loopM (σ := Int32 × (Nat → Int32)) (fun u H locs ls => va_P (dC, dI) vwCl [(h0, .inr (7, [.ref h1, .ref h2, .ref h3, .ref h4, .ref h5, .ref h6, .int a0, .int a1, .int a2, .int a3, .int a4, .int a5, .int a6, .int a7])), (h1, .inl (cI, 9, .inl g0)), (h2, .inl (cI, 9, .inl g1)), (h3, .inl (cI, 9, .inl g2)), (h4, .inl (cI, 81, .inl g3)), (h5, .inl (cI, 81, .inl g4)), (h6, .inl (cI, 4608, .inl u.2))] H ∧ va_D A [(h0, .inr (7, [.ref h1, .ref h2, .ref h3, .ref h4, .ref h5, .ref h6, .int a0, .int a1, .int a2, .int a3, .int a4, .int a5, .int a6, .int a7])), (h1, .inl (cI, 9, .inl g0)), (h2, .inl (cI, 9, .inl g1)), (h3, .inl (cI, 9, .inl g2)), (h4, .inl (cI, 81, .inl g3)), (h5, .inl (cI, 81, .inl g4)), (h6, .inl (cI, 4608, .inl u.2))] ∧ va_S A s.heap H locs ∧ lv_has ls 4 [(3, .int u.1), (2, .int 1), (0, .ref h0), (1, .int p0)] ∧ rg (0) (9) u.1) (fun u => ((9) - u.1.toInt).toNat) 18 [] ?_ (0, g5) H locs ls ⟨hP, hD, hS, hl, (rg_mono (rg_k (x := 0) (c := 0) (by decide)) (by decide) (by decide))⟩
    rintro ⟨x_542, f_543⟩ H locs ls ⟨hP, hD, hS, hl, hx_542⟩ ih_575
    replace hP : va_P (dC, dI) vwCl [(h0, .inr (7, [.ref h1, .ref h2, .ref h3, .ref h4, .ref h5, .ref h6, .int a0, .int a1, .int a2, .int a3, .int a4, .int a5, .int a6, .int a7])), (h1, .inl (cI, 9, .inl g0)), (h2, .inl (cI, 9, .inl g1)), (h3, .inl (cI, 9, .inl g2)), (h4, .inl (cI, 81, .inl g3)), (h5, .inl (cI, 81, .inl g4)), (h6, .inl (cI, 4608, .inl f_543))] H := hP
    replace hD : va_D A [(h0, .inr (7, [.ref h1, .ref h2, .ref h3, .ref h4, .ref h5, .ref h6, .int a0, .int a1, .int a2, .int a3, .int a4, .int a5, .int a6, .int a7])), (h1, .inl (cI, 9, .inl g0)), (h2, .inl (cI, 9, .inl g1)), (h3, .inl (cI, 9, .inl g2)), (h4, .inl (cI, 81, .inl g3)), (h5, .inl (cI, 81, .inl g4)), (h6, .inl (cI, 4608, .inl f_543))] := hD
    replace hl : lv_has ls 4 [(3, .int x_542), (2, .int 1), (0, .ref h0), (1, .int p0)] := hl
    replace hx_542 : rg (0) (9) x_542 := hx_542
    refine lv_iload_n hx hb dX7_fillRow_18 rfl (lv_at hl 0 rfl) ?_
    refine lv_bipush (v := 9) hx hb dX7_fillRow_19 (by decide) ?_
    refine lv_icmp_ge (tgt := 84) hx hb dX7_fillRow_21 (by decide) (fun c_576 => ?_) (fun c_576 => ?_)
    · skip
      have h_577 : rg (9) (9) x_542 := by have ha := hx_542; have hb_ := (rg_k (x := 9) (c := 9) (by decide)); simp only [rg, fa_lt, fa_le, fa_eq, (by decide : (9 : Int32).toInt = 9)] at ha hb_ c_576; simp only [rg]; omega
      have hP9 := hP.sub (ws' := [(h0, .inr (7, [.ref h1, .ref h2, .ref h3, .ref h4, .ref h5, .ref h6, .int a0, .int a1, .int a2, .int a3, .int a4, .int a5, .int a6, .int a7])), (h1, .inl (cI, 9, .inl g0)), (h2, .inl (cI, 9, .inl g1)), (h3, .inl (cI, 9, .inl g2)), (h4, .inl (cI, 81, .inl g3)), (h5, .inl (cI, 81, .inl g4)), (h6, .inl (cI, 4608, .inl f_543))]) [0, 1, 2, 3, 4, 5, 6] rfl
      have hD9 := hD.sub (ws' := [(h0, .inr (7, [.ref h1, .ref h2, .ref h3, .ref h4, .ref h5, .ref h6, .int a0, .int a1, .int a2, .int a3, .int a4, .int a5, .int a6, .int a7])), (h1, .inl (cI, 9, .inl g0)), (h2, .inl (cI, 9, .inl g1)), (h3, .inl (cI, 9, .inl g2)), (h4, .inl (cI, 81, .inl g3)), (h5, .inl (cI, 81, .inl g4)), (h6, .inl (cI, 4608, .inl f_543))]) [0, 1, 2, 3, 4, 5, 6] (by decide) rfl
      exact W.vret hx hb hr (fun t ht hW => ⟨⟨(), rfl, trivial, ⟨f_543, by rw [ht]; exact hP9, hD9⟩⟩, hS.F ht⟩) hS.2.2 dX7_fillRow_84
    · skip
      have h_578 : rg (0) (8) x_542 := by have ha := hx_542; have hb_ := (rg_k (x := 9) (c := 9) (by decide)); simp only [rg, fa_lt, fa_le, fa_eq, (by decide : (9 : Int32).toInt = 9)] at ha hb_ c_576; simp only [rg]; omega
      refine lv_iload_n hx hb dX7_fillRow_24 rfl (lv_at hl 3 rfl) ?_
      refine lv_iload_n hx hb dX7_fillRow_25 rfl (lv_at hl 0 rfl) ?_
      refine lv_ishr hx hb dX7_fillRow_26 ?_
      refine lv_topi (fun x_579 ex_579 => ?_)
      have hx_579 : rg (0) (256) x_579 := by rw [ex_579]; exact rg_mono (rg_shr (b := 256) (rg_mono h_261 (by decide) (by decide))) (by decide) (by decide)
      refine lv_iconst (v := 1) hx hb dX7_fillRow_27 (by decide) ?_
      refine lv_iand hx hb dX7_fillRow_28 ?_
      refine lv_topi (fun x_580 ex_580 => ?_)
      have hx_580 : rg (0) (1) x_580 := by rw [ex_580]; exact rg_mono (rg_andr (b := 1) (rg_mono (rg_k (x := 1) (c := 1) (by decide)) (by decide) (by decide))) (by decide) (by decide)
      have kx_580_0 : rg 1 2147483647 x_580 → rg 1 (256) x_579 := fun hq => rg_andP hx_579 (ex_580 ▸ hq)
      refine lv_iconst (v := 1) hx hb dX7_fillRow_29 (by decide) ?_
      refine lv_icmp_ne (tgt := 78) hx hb dX7_fillRow_30 (by decide) (fun c_581 => ?_) (fun c_581 => ?_)
      · skip
        have h_582 : rg (0) (0) x_580 := by have ha := hx_580; have hb_ := (rg_k (x := 1) (c := 1) (by decide)); simp only [rg, fa_lt, fa_le, fa_eq, (by decide : (1 : Int32).toInt = 1)] at ha hb_ c_581; simp only [rg]; omega
        obtain ⟨x_583, ex_583⟩ : ∃ y : Int32, y = x_542 + Int32.ofInt (1) := ⟨_, rfl⟩
        have hx_583 : rg (1) (9) x_583 := by rw [ex_583]; exact rg_mono (rg_add h_578 (rg_k (x := Int32.ofInt (1)) (c := 1) (by decide)) (by decide) (by decide)) (by decide) (by decide)
        have qx_583 : x_583.toInt = x_542.toInt + (1) := by rw [ex_583]; exact rg_addE h_578 (rg_k (x := Int32.ofInt (1)) (c := 1) (by decide)) (by decide) (by decide) (by decide)
        refine lv_iinc (v := x_583) (lv' := [(3, .int x_583), (2, .int 1), (0, .ref h0), (1, .int p0)]) hx hb dX7_fillRow_78 hl (k := 0) rfl (ex_583.symm) (by decide) rfl (fun ls hl => ?_)
        clear ex_583
        refine lv_goto (tgt := 18) hx hb dX7_fillRow_81 (by decide) ?_
        exact ih_575 (x_583, f_543) H locs ls ⟨hP.sub (ws' := [(h0, .inr (7, [.ref h1, .ref h2, .ref h3, .ref h4, .ref h5, .ref h6, .int a0, .int a1, .int a2, .int a3, .int a4, .int a5, .int a6, .int a7])), (h1, .inl (cI, 9, .inl g0)), (h2, .inl (cI, 9, .inl g1)), (h3, .inl (cI, 9, .inl g2)), (h4, .inl (cI, 81, .inl g3)), (h5, .inl (cI, 81, .inl g4)), (h6, .inl (cI, 4608, .inl f_543))]) [0, 1, 2, 3, 4, 5, 6] rfl, hD.sub (ws' := [(h0, .inr (7, [.ref h1, .ref h2, .ref h3, .ref h4, .ref h5, .ref h6, .int a0, .int a1, .int a2, .int a3, .int a4, .int a5, .int a6, .int a7])), (h1, .inl (cI, 9, .inl g0)), (h2, .inl (cI, 9, .inl g1)), (h3, .inl (cI, 9, .inl g2)), (h4, .inl (cI, 81, .inl g3)), (h5, .inl (cI, 81, .inl g4)), (h6, .inl (cI, 4608, .inl f_543))]) [0, 1, 2, 3, 4, 5, 6] (by decide) rfl, hS, lv_sub hl [0, 1, 2, 3] rfl, (rg_mono hx_583 (by decide) (by decide))⟩ (by show ((9) - x_583.toInt).toNat < ((9) - x_542.toInt).toNat; have ha := h_578; simp only [rg] at ha; omega)
      · skip
        have h_584 : rg (1) (1) x_580 := by have ha := hx_580; have hb_ := (rg_k (x := 1) (c := 1) (by decide)); simp only [rg, fa_lt, fa_le, fa_eq, (by decide : (1 : Int32).toInt = 1)] at ha hb_ c_581; simp only [rg]; omega
        have h_585 : rg (1) (256) x_579 := rg_meet hx_579 (kx_580_0 (rg_mono h_584 (by decide) (by decide))) (by decide) (by decide)
        refine lv_iload_n hx hb dX7_fillRow_33 rfl (lv_at hl 0 rfl) ?_
        refine lv_aload_n hx hb dX7_fillRow_34 rfl (lv_at hl 2 rfl) ?_
        refine va_get (D := (dC, dI)) (ci := 7) (v := .int a7) (C := RX7) (T := TX7) (N := 14) hx hb hts hinX7 hown hK hP 0 rfl rfl 13 (by decide) (hts (.fieldLink RX7 53 "MayRings$Ways" "start" "I") (List.mem_of_getElem? (i := 1) rfl)) (fun _ h9 => h9) rfl dX7_fillRow_35 ?_
        refine lv_icmp_ne (tgt := 45) hx hb dX7_fillRow_38 (by decide) (fun c_586 => ?_) (fun c_586 => ?_)
        · skip
          refine lv_aload_n hx hb dX7_fillRow_45 rfl (lv_at hl 2 rfl) ?_
          refine va_get (D := (dC, dI)) (ci := 7) (v := .ref h6) (C := RX7) (T := TX7) (N := 14) hx hb hts hinX7 hown hK hP 0 rfl rfl 5 (by decide) (hts (.fieldLink RX7 27 "MayRings$Ways" "ahead" "[I") (List.mem_of_getElem? (i := 2) rfl)) (fun _ h9 => h9) rfl dX7_fillRow_46 ?_
          refine lv_iload_n hx hb dX7_fillRow_49 rfl (lv_at hl 3 rfl) ?_
          refine lv_bipush (v := 9) hx hb dX7_fillRow_50 (by decide) ?_
          refine lv_imul hx hb dX7_fillRow_52 ?_
          refine lv_topi (fun x_587 ex_587 => ?_)
          have hx_587 : rg (9) (2304) x_587 := by rw [ex_587]; exact rg_mono (rg_mul h_261 (rg_k (x := 9) (c := 9) (by decide)) (by decide) (by decide) (by decide)) (by decide) (by decide)
          refine lv_iload_n hx hb dX7_fillRow_53 rfl (lv_at hl 0 rfl) ?_
          refine lv_iadd hx hb dX7_fillRow_54 ?_
          refine lv_topi (fun x_588 ex_588 => ?_)
          have hx_588 : rg (9) (2312) x_588 := by rw [ex_588]; exact rg_mono (rg_add hx_587 h_578 (by decide) (by decide)) (by decide) (by decide)
          have qx_588 : x_588.toInt = x_587.toInt + x_542.toInt := by rw [ex_588]; exact rg_addQ hx_587 h_578 (by decide) (by decide)
          refine lv_iload_n hx hb dX7_fillRow_55 rfl (lv_at hl 3 rfl) ?_
          refine lv_aload_n hx hb dX7_fillRow_56 rfl (lv_at hl 2 rfl) ?_
          refine va_get (D := (dC, dI)) (ci := 7) (v := .int a0) (C := RX7) (T := TX7) (N := 14) hx hb hts hinX7 hown hK hP 0 rfl rfl 6 (by decide) (hts (.fieldLink RX7 30 "MayRings$Ways" "houses" "I") (List.mem_of_getElem? (i := 3) rfl)) (fun _ h9 => h9) rfl dX7_fillRow_57 ?_
          refine lv_icmp_ne (tgt := 71) hx hb dX7_fillRow_60 (by decide) (fun c_589 => ?_) (fun c_589 => ?_)
          · skip
            refine lv_aload_n hx hb dX7_fillRow_71 rfl (lv_at hl 2 rfl) ?_
            refine lv_iload_n hx hb dX7_fillRow_72 rfl (lv_at hl 3 rfl) ?_
            refine lv_iload_n hx hb dX7_fillRow_73 rfl (lv_at hl 0 rfl) ?_
            have hPc := hP.sub (ws' := [(h0, .inr (7, [.ref h1, .ref h2, .ref h3, .ref h4, .ref h5, .ref h6, .int a0, .int a1, .int a2, .int a3, .int a4, .int a5, .int a6, .int a7])), (h1, .inl (cI, 9, .inl g0)), (h2, .inl (cI, 9, .inl g1)), (h3, .inl (cI, 9, .inl g2)), (h4, .inl (cI, 81, .inl g3)), (h5, .inl (cI, 81, .inl g4)), (h6, .inl (cI, 4608, .inl f_543))]) [0, 1, 2, 3, 4, 5, 6] rfl
            have hDc := hD.sub (ws' := [(h0, .inr (7, [.ref h1, .ref h2, .ref h3, .ref h4, .ref h5, .ref h6, .int a0, .int a1, .int a2, .int a3, .int a4, .int a5, .int a6, .int a7])), (h1, .inl (cI, 9, .inl g0)), (h2, .inl (cI, 9, .inl g1)), (h3, .inl (cI, 9, .inl g2)), (h4, .inl (cI, 81, .inl g3)), (h5, .inl (cI, 81, .inl g4)), (h6, .inl (cI, 4608, .inl f_543))]) [0, 1, 2, 3, 4, 5, 6] (by decide) rfl
            have hFc := va_free (wc := [(h0, .inr (7, [.ref h1, .ref h2, .ref h3, .ref h4, .ref h5, .ref h6, .int a0, .int a1, .int a2, .int a3, .int a4, .int a5, .int a6, .int a7])), (h1, .inl (cI, 9, .inl g0)), (h2, .inl (cI, 9, .inl g1)), (h3, .inl (cI, 9, .inl g2)), (h4, .inl (cI, 81, .inl g3)), (h5, .inl (cI, 81, .inl g4)), (h6, .inl (cI, 4608, .inl f_543))]) hD hS hA [0, 1, 2, 3, 4, 5, 6] rfl
            refine va_calli (va_runV (As := [.int p0, .int x_542]) (rest := [.int x_588, .ref h6]) ⟨hx, hb, hml, hown, hts⟩ (c_s_X7_onward l dC dI cB cI cJ cZ cP h0 h1 g0 hg0 h2 g1 hg1 h3 g2 hg2 h4 g3 h5 g4 h6 f_543 a0 a1 (rg_mono ha1 (by decide) (by decide)) a2 (rg_mono ha2 (by decide) (by decide)) a3 a4 a5 (rg_mono ha5 (by decide) (by decide)) a6 a7 (rg_mono ha7 (by decide) (by decide)) p0 (rg_mono h_261 (by decide) (by decide)) x_542 (rg_mono h_578 (by decide) (by decide)) H.size) (cwV 2 hts (gd_V (List.mem_of_getElem? (i := 4) rfl) (List.mem_of_getElem? (i := 5) rfl) (List.mem_of_getElem? (i := 6) rfl) (List.mem_of_getElem? (i := 7) rfl) (gd_mono k_s_X7_onward (fun _ h => List.mem_cons_of_mem _ (List.mem_append_right _ (List.mem_append_right _ (List.mem_append_left _ h)))))) rfl rfl rfl (by decide +kernel) ⟨Nat.le_of_ble_eq_true rfl, Nat.le_of_ble_eq_true rfl⟩) ⟨fun a U g mk q => by obtain ⟨q0, q1, qP, qK, qD⟩ := q; exact ⟨q0, q1, qP, va_K.moved (u := U) (U := U.calling g mk a) (Vm.Alike.refl U.vm) qK, qD⟩, va_recv hK hPc (ci := 7) (q0 := 0) rfl rfl, fun U hU hW => ⟨rfl, by rw [hU], by rw [hU]; exact hPc, va_K.moved hW.alike hK, hDc.weaken (fun _ _ _ _ => trivial)⟩⟩ rfl rfl hl.1 rfl (lv_room (Nat.le_of_ble_eq_true rfl)) dX7_fillRow_74 ⟨Nat.le_of_ble_eq_true rfl, Nat.le_of_ble_eq_true rfl⟩) hS (fun q _ h => hFc q h) hFc (fun r_590 u t H1 locs ht hvm hw hB hz1 hk1 hS => ?_)
            obtain ⟨hP1, hD1⟩ := hB
            rw [ht] at hP1
            obtain ⟨hP, hD⟩ := va_join (wr := []) (w1 := [(h0, .inr (7, [.ref h1, .ref h2, .ref h3, .ref h4, .ref h5, .ref h6, .int a0, .int a1, .int a2, .int a3, .int a4, .int a5, .int a6, .int a7])), (h1, .inl (cI, 9, .inl g0)), (h2, .inl (cI, 9, .inl g1)), (h3, .inl (cI, 9, .inl g2)), (h4, .inl (cI, 81, .inl g3)), (h5, .inl (cI, 81, .inl g4)), (h6, .inl (cI, 4608, .inl f_543))]) hP hD [0, 1, 2, 3, 4, 5, 6] [] rfl rfl (by decide) (by decide) hk1 hFc hP1 hD1
            generalize H1 = H at hP hS ⊢
            replace hP : va_P (dC, dI) vwCl [(h0, .inr (7, [.ref h1, .ref h2, .ref h3, .ref h4, .ref h5, .ref h6, .int a0, .int a1, .int a2, .int a3, .int a4, .int a5, .int a6, .int a7])), (h1, .inl (cI, 9, .inl g0)), (h2, .inl (cI, 9, .inl g1)), (h3, .inl (cI, 9, .inl g2)), (h4, .inl (cI, 81, .inl g3)), (h5, .inl (cI, 81, .inl g4)), (h6, .inl (cI, 4608, .inl f_543))] H := hP
            replace hD : va_D A [(h0, .inr (7, [.ref h1, .ref h2, .ref h3, .ref h4, .ref h5, .ref h6, .int a0, .int a1, .int a2, .int a3, .int a4, .int a5, .int a6, .int a7])), (h1, .inl (cI, 9, .inl g0)), (h2, .inl (cI, 9, .inl g1)), (h3, .inl (cI, 9, .inl g2)), (h4, .inl (cI, 81, .inl g3)), (h5, .inl (cI, 81, .inl g4)), (h6, .inl (cI, 4608, .inl f_543))] := hD
            refine va_iast hx hb hK hP hD hS 6 1 rfl rfl (rg_in (n := 4608) (rg_mono hx_588 (by decide) (by decide))) dX7_fillRow_77 (fun H locs hP hD hS => ?_)
            obtain ⟨f_591, ef_591⟩ : ∃ f : Nat → Int32, f = upd f_543 (x_588 : Int32).toNatClampNeg r_590 := ⟨_, rfl⟩
            rw [← ef_591] at hP hD
            clear ef_591
            replace hP : va_P (dC, dI) vwCl [(h0, .inr (7, [.ref h1, .ref h2, .ref h3, .ref h4, .ref h5, .ref h6, .int a0, .int a1, .int a2, .int a3, .int a4, .int a5, .int a6, .int a7])), (h1, .inl (cI, 9, .inl g0)), (h2, .inl (cI, 9, .inl g1)), (h3, .inl (cI, 9, .inl g2)), (h4, .inl (cI, 81, .inl g3)), (h5, .inl (cI, 81, .inl g4)), (h6, .inl (cI, 4608, .inl f_591))] H := hP
            replace hD : va_D A [(h0, .inr (7, [.ref h1, .ref h2, .ref h3, .ref h4, .ref h5, .ref h6, .int a0, .int a1, .int a2, .int a3, .int a4, .int a5, .int a6, .int a7])), (h1, .inl (cI, 9, .inl g0)), (h2, .inl (cI, 9, .inl g1)), (h3, .inl (cI, 9, .inl g2)), (h4, .inl (cI, 81, .inl g3)), (h5, .inl (cI, 81, .inl g4)), (h6, .inl (cI, 4608, .inl f_591))] := hD
            obtain ⟨x_592, ex_592⟩ : ∃ y : Int32, y = x_542 + Int32.ofInt (1) := ⟨_, rfl⟩
            have hx_592 : rg (1) (9) x_592 := by rw [ex_592]; exact rg_mono (rg_add h_578 (rg_k (x := Int32.ofInt (1)) (c := 1) (by decide)) (by decide) (by decide)) (by decide) (by decide)
            have qx_592 : x_592.toInt = x_542.toInt + (1) := by rw [ex_592]; exact rg_addE h_578 (rg_k (x := Int32.ofInt (1)) (c := 1) (by decide)) (by decide) (by decide) (by decide)
            refine lv_iinc (v := x_592) (lv' := [(3, .int x_592), (2, .int 1), (0, .ref h0), (1, .int p0)]) hx hb dX7_fillRow_78 hl (k := 0) rfl (ex_592.symm) (by decide) rfl (fun ls hl => ?_)
            clear ex_592
            refine lv_goto (tgt := 18) hx hb dX7_fillRow_81 (by decide) ?_
            exact ih_575 (x_592, f_591) H locs ls ⟨hP.sub (ws' := [(h0, .inr (7, [.ref h1, .ref h2, .ref h3, .ref h4, .ref h5, .ref h6, .int a0, .int a1, .int a2, .int a3, .int a4, .int a5, .int a6, .int a7])), (h1, .inl (cI, 9, .inl g0)), (h2, .inl (cI, 9, .inl g1)), (h3, .inl (cI, 9, .inl g2)), (h4, .inl (cI, 81, .inl g3)), (h5, .inl (cI, 81, .inl g4)), (h6, .inl (cI, 4608, .inl f_591))]) [0, 1, 2, 3, 4, 5, 6] rfl, hD.sub (ws' := [(h0, .inr (7, [.ref h1, .ref h2, .ref h3, .ref h4, .ref h5, .ref h6, .int a0, .int a1, .int a2, .int a3, .int a4, .int a5, .int a6, .int a7])), (h1, .inl (cI, 9, .inl g0)), (h2, .inl (cI, 9, .inl g1)), (h3, .inl (cI, 9, .inl g2)), (h4, .inl (cI, 81, .inl g3)), (h5, .inl (cI, 81, .inl g4)), (h6, .inl (cI, 4608, .inl f_591))]) [0, 1, 2, 3, 4, 5, 6] (by decide) rfl, hS, lv_sub hl [0, 1, 2, 3] rfl, (rg_mono hx_592 (by decide) (by decide))⟩ (by show ((9) - x_592.toInt).toNat < ((9) - x_542.toInt).toNat; have ha := h_578; simp only [rg] at ha; omega)
          · skip
            have h_593 : rg (1) (256) a0 := by have ha := h_261; have hb_ := ha0; simp only [rg, fa_lt, fa_le, fa_eq] at ha hb_ c_589; simp only [rg]; omega
            refine lv_aload_n hx hb dX7_fillRow_63 rfl (lv_at hl 2 rfl) ?_
            refine lv_iload_n hx hb dX7_fillRow_64 rfl (lv_at hl 0 rfl) ?_
            have hPc := hP.sub (ws' := [(h0, .inr (7, [.ref h1, .ref h2, .ref h3, .ref h4, .ref h5, .ref h6, .int a0, .int a1, .int a2, .int a3, .int a4, .int a5, .int a6, .int a7])), (h2, .inl (cI, 9, .inl g1)), (h4, .inl (cI, 81, .inl g3))]) [0, 2, 4] rfl
            have hDc := hD.sub (ws' := [(h0, .inr (7, [.ref h1, .ref h2, .ref h3, .ref h4, .ref h5, .ref h6, .int a0, .int a1, .int a2, .int a3, .int a4, .int a5, .int a6, .int a7])), (h2, .inl (cI, 9, .inl g1)), (h4, .inl (cI, 81, .inl g3))]) [0, 2, 4] (by decide) rfl
            have hFc := va_free (wc := [(h0, .inr (7, [.ref h1, .ref h2, .ref h3, .ref h4, .ref h5, .ref h6, .int a0, .int a1, .int a2, .int a3, .int a4, .int a5, .int a6, .int a7])), (h2, .inl (cI, 9, .inl g1)), (h4, .inl (cI, 81, .inl g3))]) hD hS hA [0, 2, 4] rfl
            refine va_calli (va_runV (As := [.int x_542]) (rest := [.int x_588, .ref h6]) ⟨hx, hb, hml, hown, hts⟩ (c_s_X7_closing l dC dI cB cI cJ cZ cP h0 h1 h2 g1 hg1 h3 h4 g3 h5 h6 a0 a1 a2 (rg_mono ha2 (by decide) (by decide)) a3 a4 a5 (rg_mono ha5 (by decide) (by decide)) a6 a7 (rg_mono ha7 (by decide) (by decide)) x_542 (rg_mono h_578 (by decide) (by decide)) H.size) (cwV 1 hts (gd_V (List.mem_of_getElem? (i := 8) rfl) (List.mem_of_getElem? (i := 9) rfl) (List.mem_of_getElem? (i := 10) rfl) (List.mem_of_getElem? (i := 7) rfl) (gd_mono k_s_X7_closing (fun _ h => List.mem_cons_of_mem _ (List.mem_append_right _ (List.mem_append_right _ (List.mem_append_right _ (List.mem_append_left _ h))))))) rfl rfl rfl (by decide +kernel) ⟨Nat.le_of_ble_eq_true rfl, Nat.le_of_ble_eq_true rfl⟩) ⟨fun a U g mk q => by obtain ⟨q0, q1, qP, qK, qD⟩ := q; exact ⟨q0, q1, qP, va_K.moved (u := U) (U := U.calling g mk a) (Vm.Alike.refl U.vm) qK, qD⟩, va_recv hK hPc (ci := 7) (q0 := 0) rfl rfl, fun U hU hW => ⟨rfl, by rw [hU], by rw [hU]; exact hPc, va_K.moved hW.alike hK, hDc.weaken (fun _ _ _ _ => trivial)⟩⟩ rfl rfl hl.1 rfl (lv_room (Nat.le_of_ble_eq_true rfl)) dX7_fillRow_65 ⟨Nat.le_of_ble_eq_true rfl, Nat.le_of_ble_eq_true rfl⟩) hS (fun q _ h => hFc q h) hFc (fun r_594 u t H1 locs ht hvm hw hB hz1 hk1 hS => ?_)
            obtain ⟨hP1, hD1⟩ := hB
            rw [ht] at hP1
            obtain ⟨hP, hD⟩ := va_join (wr := [(h1, .inl (cI, 9, .inl g0)), (h3, .inl (cI, 9, .inl g2)), (h5, .inl (cI, 81, .inl g4)), (h6, .inl (cI, 4608, .inl f_543))]) (w1 := [(h0, .inr (7, [.ref h1, .ref h2, .ref h3, .ref h4, .ref h5, .ref h6, .int a0, .int a1, .int a2, .int a3, .int a4, .int a5, .int a6, .int a7])), (h2, .inl (cI, 9, .inl g1)), (h4, .inl (cI, 81, .inl g3))]) hP hD [0, 2, 4] [1, 3, 5, 6] rfl rfl (by decide) (by decide) hk1 hFc hP1 hD1
            generalize H1 = H at hP hS ⊢
            replace hP : va_P (dC, dI) vwCl [(h1, .inl (cI, 9, .inl g0)), (h3, .inl (cI, 9, .inl g2)), (h5, .inl (cI, 81, .inl g4)), (h6, .inl (cI, 4608, .inl f_543)), (h0, .inr (7, [.ref h1, .ref h2, .ref h3, .ref h4, .ref h5, .ref h6, .int a0, .int a1, .int a2, .int a3, .int a4, .int a5, .int a6, .int a7])), (h2, .inl (cI, 9, .inl g1)), (h4, .inl (cI, 81, .inl g3))] H := hP
            replace hD : va_D A [(h1, .inl (cI, 9, .inl g0)), (h3, .inl (cI, 9, .inl g2)), (h5, .inl (cI, 81, .inl g4)), (h6, .inl (cI, 4608, .inl f_543)), (h0, .inr (7, [.ref h1, .ref h2, .ref h3, .ref h4, .ref h5, .ref h6, .int a0, .int a1, .int a2, .int a3, .int a4, .int a5, .int a6, .int a7])), (h2, .inl (cI, 9, .inl g1)), (h4, .inl (cI, 81, .inl g3))] := hD
            refine lv_goto (tgt := 77) hx hb dX7_fillRow_68 (by decide) ?_
            refine va_iast hx hb hK hP hD hS 3 1 rfl rfl (rg_in (n := 4608) (rg_mono hx_588 (by decide) (by decide))) dX7_fillRow_77 (fun H locs hP hD hS => ?_)
            obtain ⟨f_595, ef_595⟩ : ∃ f : Nat → Int32, f = upd f_543 (x_588 : Int32).toNatClampNeg r_594 := ⟨_, rfl⟩
            rw [← ef_595] at hP hD
            clear ef_595
            replace hP : va_P (dC, dI) vwCl [(h1, .inl (cI, 9, .inl g0)), (h3, .inl (cI, 9, .inl g2)), (h5, .inl (cI, 81, .inl g4)), (h6, .inl (cI, 4608, .inl f_595)), (h0, .inr (7, [.ref h1, .ref h2, .ref h3, .ref h4, .ref h5, .ref h6, .int a0, .int a1, .int a2, .int a3, .int a4, .int a5, .int a6, .int a7])), (h2, .inl (cI, 9, .inl g1)), (h4, .inl (cI, 81, .inl g3))] H := hP
            replace hD : va_D A [(h1, .inl (cI, 9, .inl g0)), (h3, .inl (cI, 9, .inl g2)), (h5, .inl (cI, 81, .inl g4)), (h6, .inl (cI, 4608, .inl f_595)), (h0, .inr (7, [.ref h1, .ref h2, .ref h3, .ref h4, .ref h5, .ref h6, .int a0, .int a1, .int a2, .int a3, .int a4, .int a5, .int a6, .int a7])), (h2, .inl (cI, 9, .inl g1)), (h4, .inl (cI, 81, .inl g3))] := hD
            obtain ⟨x_596, ex_596⟩ : ∃ y : Int32, y = x_542 + Int32.ofInt (1) := ⟨_, rfl⟩
            have hx_596 : rg (1) (9) x_596 := by rw [ex_596]; exact rg_mono (rg_add h_578 (rg_k (x := Int32.ofInt (1)) (c := 1) (by decide)) (by decide) (by decide)) (by decide) (by decide)
            have qx_596 : x_596.toInt = x_542.toInt + (1) := by rw [ex_596]; exact rg_addE h_578 (rg_k (x := Int32.ofInt (1)) (c := 1) (by decide)) (by decide) (by decide) (by decide)
            refine lv_iinc (v := x_596) (lv' := [(3, .int x_596), (2, .int 1), (0, .ref h0), (1, .int p0)]) hx hb dX7_fillRow_78 hl (k := 0) rfl (ex_596.symm) (by decide) rfl (fun ls hl => ?_)
            clear ex_596
            refine lv_goto (tgt := 18) hx hb dX7_fillRow_81 (by decide) ?_
            exact ih_575 (x_596, f_595) H locs ls ⟨hP.sub (ws' := [(h0, .inr (7, [.ref h1, .ref h2, .ref h3, .ref h4, .ref h5, .ref h6, .int a0, .int a1, .int a2, .int a3, .int a4, .int a5, .int a6, .int a7])), (h1, .inl (cI, 9, .inl g0)), (h2, .inl (cI, 9, .inl g1)), (h3, .inl (cI, 9, .inl g2)), (h4, .inl (cI, 81, .inl g3)), (h5, .inl (cI, 81, .inl g4)), (h6, .inl (cI, 4608, .inl f_595))]) [4, 0, 5, 1, 6, 2, 3] rfl, hD.sub (ws' := [(h0, .inr (7, [.ref h1, .ref h2, .ref h3, .ref h4, .ref h5, .ref h6, .int a0, .int a1, .int a2, .int a3, .int a4, .int a5, .int a6, .int a7])), (h1, .inl (cI, 9, .inl g0)), (h2, .inl (cI, 9, .inl g1)), (h3, .inl (cI, 9, .inl g2)), (h4, .inl (cI, 81, .inl g3)), (h5, .inl (cI, 81, .inl g4)), (h6, .inl (cI, 4608, .inl f_595))]) [4, 0, 5, 1, 6, 2, 3] (by decide) rfl, hS, lv_sub hl [0, 1, 2, 3] rfl, (rg_mono hx_596 (by decide) (by decide))⟩ (by show ((9) - x_596.toInt).toNat < ((9) - x_542.toInt).toNat; have ha := h_578; simp only [rg] at ha; omega)
        · skip
          refine lv_iload_n hx hb dX7_fillRow_41 rfl (lv_at hl 1 rfl) ?_
          refine lv_if_eq (tgt := 78) hx hb dX7_fillRow_42 (by decide) (fun cz => absurd cz (by decide)) (fun _ => ?_)
          refine lv_aload_n hx hb dX7_fillRow_45 rfl (lv_at hl 2 rfl) ?_
          refine va_get (D := (dC, dI)) (ci := 7) (v := .ref h6) (C := RX7) (T := TX7) (N := 14) hx hb hts hinX7 hown hK hP 0 rfl rfl 5 (by decide) (hts (.fieldLink RX7 27 "MayRings$Ways" "ahead" "[I") (List.mem_of_getElem? (i := 2) rfl)) (fun _ h9 => h9) rfl dX7_fillRow_46 ?_
          refine lv_iload_n hx hb dX7_fillRow_49 rfl (lv_at hl 3 rfl) ?_
          refine lv_bipush (v := 9) hx hb dX7_fillRow_50 (by decide) ?_
          refine lv_imul hx hb dX7_fillRow_52 ?_
          refine lv_topi (fun x_597 ex_597 => ?_)
          have hx_597 : rg (9) (2304) x_597 := by rw [ex_597]; exact rg_mono (rg_mul h_261 (rg_k (x := 9) (c := 9) (by decide)) (by decide) (by decide) (by decide)) (by decide) (by decide)
          refine lv_iload_n hx hb dX7_fillRow_53 rfl (lv_at hl 0 rfl) ?_
          refine lv_iadd hx hb dX7_fillRow_54 ?_
          refine lv_topi (fun x_598 ex_598 => ?_)
          have hx_598 : rg (9) (2312) x_598 := by rw [ex_598]; exact rg_mono (rg_add hx_597 h_578 (by decide) (by decide)) (by decide) (by decide)
          have qx_598 : x_598.toInt = x_597.toInt + x_542.toInt := by rw [ex_598]; exact rg_addQ hx_597 h_578 (by decide) (by decide)
          refine lv_iload_n hx hb dX7_fillRow_55 rfl (lv_at hl 3 rfl) ?_
          refine lv_aload_n hx hb dX7_fillRow_56 rfl (lv_at hl 2 rfl) ?_
          refine va_get (D := (dC, dI)) (ci := 7) (v := .int a0) (C := RX7) (T := TX7) (N := 14) hx hb hts hinX7 hown hK hP 0 rfl rfl 6 (by decide) (hts (.fieldLink RX7 30 "MayRings$Ways" "houses" "I") (List.mem_of_getElem? (i := 3) rfl)) (fun _ h9 => h9) rfl dX7_fillRow_57 ?_
          refine lv_icmp_ne (tgt := 71) hx hb dX7_fillRow_60 (by decide) (fun c_599 => ?_) (fun c_599 => ?_)
          · skip
            refine lv_aload_n hx hb dX7_fillRow_71 rfl (lv_at hl 2 rfl) ?_
            refine lv_iload_n hx hb dX7_fillRow_72 rfl (lv_at hl 3 rfl) ?_
            refine lv_iload_n hx hb dX7_fillRow_73 rfl (lv_at hl 0 rfl) ?_
            have hPc := hP.sub (ws' := [(h0, .inr (7, [.ref h1, .ref h2, .ref h3, .ref h4, .ref h5, .ref h6, .int a0, .int a1, .int a2, .int a3, .int a4, .int a5, .int a6, .int a7])), (h1, .inl (cI, 9, .inl g0)), (h2, .inl (cI, 9, .inl g1)), (h3, .inl (cI, 9, .inl g2)), (h4, .inl (cI, 81, .inl g3)), (h5, .inl (cI, 81, .inl g4)), (h6, .inl (cI, 4608, .inl f_543))]) [0, 1, 2, 3, 4, 5, 6] rfl
            have hDc := hD.sub (ws' := [(h0, .inr (7, [.ref h1, .ref h2, .ref h3, .ref h4, .ref h5, .ref h6, .int a0, .int a1, .int a2, .int a3, .int a4, .int a5, .int a6, .int a7])), (h1, .inl (cI, 9, .inl g0)), (h2, .inl (cI, 9, .inl g1)), (h3, .inl (cI, 9, .inl g2)), (h4, .inl (cI, 81, .inl g3)), (h5, .inl (cI, 81, .inl g4)), (h6, .inl (cI, 4608, .inl f_543))]) [0, 1, 2, 3, 4, 5, 6] (by decide) rfl
            have hFc := va_free (wc := [(h0, .inr (7, [.ref h1, .ref h2, .ref h3, .ref h4, .ref h5, .ref h6, .int a0, .int a1, .int a2, .int a3, .int a4, .int a5, .int a6, .int a7])), (h1, .inl (cI, 9, .inl g0)), (h2, .inl (cI, 9, .inl g1)), (h3, .inl (cI, 9, .inl g2)), (h4, .inl (cI, 81, .inl g3)), (h5, .inl (cI, 81, .inl g4)), (h6, .inl (cI, 4608, .inl f_543))]) hD hS hA [0, 1, 2, 3, 4, 5, 6] rfl
            refine va_calli (va_runV (As := [.int p0, .int x_542]) (rest := [.int x_598, .ref h6]) ⟨hx, hb, hml, hown, hts⟩ (c_s_X7_onward l dC dI cB cI cJ cZ cP h0 h1 g0 hg0 h2 g1 hg1 h3 g2 hg2 h4 g3 h5 g4 h6 f_543 a0 a1 (rg_mono ha1 (by decide) (by decide)) a2 (rg_mono ha2 (by decide) (by decide)) a3 a4 a5 (rg_mono ha5 (by decide) (by decide)) a6 a7 (rg_mono ha7 (by decide) (by decide)) p0 (rg_mono h_261 (by decide) (by decide)) x_542 (rg_mono h_578 (by decide) (by decide)) H.size) (cwV 2 hts (gd_V (List.mem_of_getElem? (i := 4) rfl) (List.mem_of_getElem? (i := 5) rfl) (List.mem_of_getElem? (i := 6) rfl) (List.mem_of_getElem? (i := 7) rfl) (gd_mono k_s_X7_onward (fun _ h => List.mem_cons_of_mem _ (List.mem_append_right _ (List.mem_append_right _ (List.mem_append_left _ h)))))) rfl rfl rfl (by decide +kernel) ⟨Nat.le_of_ble_eq_true rfl, Nat.le_of_ble_eq_true rfl⟩) ⟨fun a U g mk q => by obtain ⟨q0, q1, qP, qK, qD⟩ := q; exact ⟨q0, q1, qP, va_K.moved (u := U) (U := U.calling g mk a) (Vm.Alike.refl U.vm) qK, qD⟩, va_recv hK hPc (ci := 7) (q0 := 0) rfl rfl, fun U hU hW => ⟨rfl, by rw [hU], by rw [hU]; exact hPc, va_K.moved hW.alike hK, hDc.weaken (fun _ _ _ _ => trivial)⟩⟩ rfl rfl hl.1 rfl (lv_room (Nat.le_of_ble_eq_true rfl)) dX7_fillRow_74 ⟨Nat.le_of_ble_eq_true rfl, Nat.le_of_ble_eq_true rfl⟩) hS (fun q _ h => hFc q h) hFc (fun r_600 u t H1 locs ht hvm hw hB hz1 hk1 hS => ?_)
            obtain ⟨hP1, hD1⟩ := hB
            rw [ht] at hP1
            obtain ⟨hP, hD⟩ := va_join (wr := []) (w1 := [(h0, .inr (7, [.ref h1, .ref h2, .ref h3, .ref h4, .ref h5, .ref h6, .int a0, .int a1, .int a2, .int a3, .int a4, .int a5, .int a6, .int a7])), (h1, .inl (cI, 9, .inl g0)), (h2, .inl (cI, 9, .inl g1)), (h3, .inl (cI, 9, .inl g2)), (h4, .inl (cI, 81, .inl g3)), (h5, .inl (cI, 81, .inl g4)), (h6, .inl (cI, 4608, .inl f_543))]) hP hD [0, 1, 2, 3, 4, 5, 6] [] rfl rfl (by decide) (by decide) hk1 hFc hP1 hD1
            generalize H1 = H at hP hS ⊢
            replace hP : va_P (dC, dI) vwCl [(h0, .inr (7, [.ref h1, .ref h2, .ref h3, .ref h4, .ref h5, .ref h6, .int a0, .int a1, .int a2, .int a3, .int a4, .int a5, .int a6, .int a7])), (h1, .inl (cI, 9, .inl g0)), (h2, .inl (cI, 9, .inl g1)), (h3, .inl (cI, 9, .inl g2)), (h4, .inl (cI, 81, .inl g3)), (h5, .inl (cI, 81, .inl g4)), (h6, .inl (cI, 4608, .inl f_543))] H := hP
            replace hD : va_D A [(h0, .inr (7, [.ref h1, .ref h2, .ref h3, .ref h4, .ref h5, .ref h6, .int a0, .int a1, .int a2, .int a3, .int a4, .int a5, .int a6, .int a7])), (h1, .inl (cI, 9, .inl g0)), (h2, .inl (cI, 9, .inl g1)), (h3, .inl (cI, 9, .inl g2)), (h4, .inl (cI, 81, .inl g3)), (h5, .inl (cI, 81, .inl g4)), (h6, .inl (cI, 4608, .inl f_543))] := hD
            refine va_iast hx hb hK hP hD hS 6 1 rfl rfl (rg_in (n := 4608) (rg_mono hx_598 (by decide) (by decide))) dX7_fillRow_77 (fun H locs hP hD hS => ?_)
            obtain ⟨f_601, ef_601⟩ : ∃ f : Nat → Int32, f = upd f_543 (x_598 : Int32).toNatClampNeg r_600 := ⟨_, rfl⟩
            rw [← ef_601] at hP hD
            clear ef_601
            replace hP : va_P (dC, dI) vwCl [(h0, .inr (7, [.ref h1, .ref h2, .ref h3, .ref h4, .ref h5, .ref h6, .int a0, .int a1, .int a2, .int a3, .int a4, .int a5, .int a6, .int a7])), (h1, .inl (cI, 9, .inl g0)), (h2, .inl (cI, 9, .inl g1)), (h3, .inl (cI, 9, .inl g2)), (h4, .inl (cI, 81, .inl g3)), (h5, .inl (cI, 81, .inl g4)), (h6, .inl (cI, 4608, .inl f_601))] H := hP
            replace hD : va_D A [(h0, .inr (7, [.ref h1, .ref h2, .ref h3, .ref h4, .ref h5, .ref h6, .int a0, .int a1, .int a2, .int a3, .int a4, .int a5, .int a6, .int a7])), (h1, .inl (cI, 9, .inl g0)), (h2, .inl (cI, 9, .inl g1)), (h3, .inl (cI, 9, .inl g2)), (h4, .inl (cI, 81, .inl g3)), (h5, .inl (cI, 81, .inl g4)), (h6, .inl (cI, 4608, .inl f_601))] := hD
            obtain ⟨x_602, ex_602⟩ : ∃ y : Int32, y = x_542 + Int32.ofInt (1) := ⟨_, rfl⟩
            have hx_602 : rg (1) (9) x_602 := by rw [ex_602]; exact rg_mono (rg_add h_578 (rg_k (x := Int32.ofInt (1)) (c := 1) (by decide)) (by decide) (by decide)) (by decide) (by decide)
            have qx_602 : x_602.toInt = x_542.toInt + (1) := by rw [ex_602]; exact rg_addE h_578 (rg_k (x := Int32.ofInt (1)) (c := 1) (by decide)) (by decide) (by decide) (by decide)
            refine lv_iinc (v := x_602) (lv' := [(3, .int x_602), (2, .int 1), (0, .ref h0), (1, .int p0)]) hx hb dX7_fillRow_78 hl (k := 0) rfl (ex_602.symm) (by decide) rfl (fun ls hl => ?_)
            clear ex_602
            refine lv_goto (tgt := 18) hx hb dX7_fillRow_81 (by decide) ?_
            exact ih_575 (x_602, f_601) H locs ls ⟨hP.sub (ws' := [(h0, .inr (7, [.ref h1, .ref h2, .ref h3, .ref h4, .ref h5, .ref h6, .int a0, .int a1, .int a2, .int a3, .int a4, .int a5, .int a6, .int a7])), (h1, .inl (cI, 9, .inl g0)), (h2, .inl (cI, 9, .inl g1)), (h3, .inl (cI, 9, .inl g2)), (h4, .inl (cI, 81, .inl g3)), (h5, .inl (cI, 81, .inl g4)), (h6, .inl (cI, 4608, .inl f_601))]) [0, 1, 2, 3, 4, 5, 6] rfl, hD.sub (ws' := [(h0, .inr (7, [.ref h1, .ref h2, .ref h3, .ref h4, .ref h5, .ref h6, .int a0, .int a1, .int a2, .int a3, .int a4, .int a5, .int a6, .int a7])), (h1, .inl (cI, 9, .inl g0)), (h2, .inl (cI, 9, .inl g1)), (h3, .inl (cI, 9, .inl g2)), (h4, .inl (cI, 81, .inl g3)), (h5, .inl (cI, 81, .inl g4)), (h6, .inl (cI, 4608, .inl f_601))]) [0, 1, 2, 3, 4, 5, 6] (by decide) rfl, hS, lv_sub hl [0, 1, 2, 3] rfl, (rg_mono hx_602 (by decide) (by decide))⟩ (by show ((9) - x_602.toInt).toNat < ((9) - x_542.toInt).toNat; have ha := h_578; simp only [rg] at ha; omega)
          · skip
            have h_603 : rg (1) (256) a0 := by have ha := h_261; have hb_ := ha0; simp only [rg, fa_lt, fa_le, fa_eq] at ha hb_ c_599; simp only [rg]; omega
            refine lv_aload_n hx hb dX7_fillRow_63 rfl (lv_at hl 2 rfl) ?_
            refine lv_iload_n hx hb dX7_fillRow_64 rfl (lv_at hl 0 rfl) ?_
            have hPc := hP.sub (ws' := [(h0, .inr (7, [.ref h1, .ref h2, .ref h3, .ref h4, .ref h5, .ref h6, .int a0, .int a1, .int a2, .int a3, .int a4, .int a5, .int a6, .int a7])), (h2, .inl (cI, 9, .inl g1)), (h4, .inl (cI, 81, .inl g3))]) [0, 2, 4] rfl
            have hDc := hD.sub (ws' := [(h0, .inr (7, [.ref h1, .ref h2, .ref h3, .ref h4, .ref h5, .ref h6, .int a0, .int a1, .int a2, .int a3, .int a4, .int a5, .int a6, .int a7])), (h2, .inl (cI, 9, .inl g1)), (h4, .inl (cI, 81, .inl g3))]) [0, 2, 4] (by decide) rfl
            have hFc := va_free (wc := [(h0, .inr (7, [.ref h1, .ref h2, .ref h3, .ref h4, .ref h5, .ref h6, .int a0, .int a1, .int a2, .int a3, .int a4, .int a5, .int a6, .int a7])), (h2, .inl (cI, 9, .inl g1)), (h4, .inl (cI, 81, .inl g3))]) hD hS hA [0, 2, 4] rfl
            refine va_calli (va_runV (As := [.int x_542]) (rest := [.int x_598, .ref h6]) ⟨hx, hb, hml, hown, hts⟩ (c_s_X7_closing l dC dI cB cI cJ cZ cP h0 h1 h2 g1 hg1 h3 h4 g3 h5 h6 a0 a1 a2 (rg_mono ha2 (by decide) (by decide)) a3 a4 a5 (rg_mono ha5 (by decide) (by decide)) a6 a7 (rg_mono ha7 (by decide) (by decide)) x_542 (rg_mono h_578 (by decide) (by decide)) H.size) (cwV 1 hts (gd_V (List.mem_of_getElem? (i := 8) rfl) (List.mem_of_getElem? (i := 9) rfl) (List.mem_of_getElem? (i := 10) rfl) (List.mem_of_getElem? (i := 7) rfl) (gd_mono k_s_X7_closing (fun _ h => List.mem_cons_of_mem _ (List.mem_append_right _ (List.mem_append_right _ (List.mem_append_right _ (List.mem_append_left _ h))))))) rfl rfl rfl (by decide +kernel) ⟨Nat.le_of_ble_eq_true rfl, Nat.le_of_ble_eq_true rfl⟩) ⟨fun a U g mk q => by obtain ⟨q0, q1, qP, qK, qD⟩ := q; exact ⟨q0, q1, qP, va_K.moved (u := U) (U := U.calling g mk a) (Vm.Alike.refl U.vm) qK, qD⟩, va_recv hK hPc (ci := 7) (q0 := 0) rfl rfl, fun U hU hW => ⟨rfl, by rw [hU], by rw [hU]; exact hPc, va_K.moved hW.alike hK, hDc.weaken (fun _ _ _ _ => trivial)⟩⟩ rfl rfl hl.1 rfl (lv_room (Nat.le_of_ble_eq_true rfl)) dX7_fillRow_65 ⟨Nat.le_of_ble_eq_true rfl, Nat.le_of_ble_eq_true rfl⟩) hS (fun q _ h => hFc q h) hFc (fun r_604 u t H1 locs ht hvm hw hB hz1 hk1 hS => ?_)
            obtain ⟨hP1, hD1⟩ := hB
            rw [ht] at hP1
            obtain ⟨hP, hD⟩ := va_join (wr := [(h1, .inl (cI, 9, .inl g0)), (h3, .inl (cI, 9, .inl g2)), (h5, .inl (cI, 81, .inl g4)), (h6, .inl (cI, 4608, .inl f_543))]) (w1 := [(h0, .inr (7, [.ref h1, .ref h2, .ref h3, .ref h4, .ref h5, .ref h6, .int a0, .int a1, .int a2, .int a3, .int a4, .int a5, .int a6, .int a7])), (h2, .inl (cI, 9, .inl g1)), (h4, .inl (cI, 81, .inl g3))]) hP hD [0, 2, 4] [1, 3, 5, 6] rfl rfl (by decide) (by decide) hk1 hFc hP1 hD1
            generalize H1 = H at hP hS ⊢
            replace hP : va_P (dC, dI) vwCl [(h1, .inl (cI, 9, .inl g0)), (h3, .inl (cI, 9, .inl g2)), (h5, .inl (cI, 81, .inl g4)), (h6, .inl (cI, 4608, .inl f_543)), (h0, .inr (7, [.ref h1, .ref h2, .ref h3, .ref h4, .ref h5, .ref h6, .int a0, .int a1, .int a2, .int a3, .int a4, .int a5, .int a6, .int a7])), (h2, .inl (cI, 9, .inl g1)), (h4, .inl (cI, 81, .inl g3))] H := hP
            replace hD : va_D A [(h1, .inl (cI, 9, .inl g0)), (h3, .inl (cI, 9, .inl g2)), (h5, .inl (cI, 81, .inl g4)), (h6, .inl (cI, 4608, .inl f_543)), (h0, .inr (7, [.ref h1, .ref h2, .ref h3, .ref h4, .ref h5, .ref h6, .int a0, .int a1, .int a2, .int a3, .int a4, .int a5, .int a6, .int a7])), (h2, .inl (cI, 9, .inl g1)), (h4, .inl (cI, 81, .inl g3))] := hD
            refine lv_goto (tgt := 77) hx hb dX7_fillRow_68 (by decide) ?_
            refine va_iast hx hb hK hP hD hS 3 1 rfl rfl (rg_in (n := 4608) (rg_mono hx_598 (by decide) (by decide))) dX7_fillRow_77 (fun H locs hP hD hS => ?_)
            obtain ⟨f_605, ef_605⟩ : ∃ f : Nat → Int32, f = upd f_543 (x_598 : Int32).toNatClampNeg r_604 := ⟨_, rfl⟩
            rw [← ef_605] at hP hD
            clear ef_605
            replace hP : va_P (dC, dI) vwCl [(h1, .inl (cI, 9, .inl g0)), (h3, .inl (cI, 9, .inl g2)), (h5, .inl (cI, 81, .inl g4)), (h6, .inl (cI, 4608, .inl f_605)), (h0, .inr (7, [.ref h1, .ref h2, .ref h3, .ref h4, .ref h5, .ref h6, .int a0, .int a1, .int a2, .int a3, .int a4, .int a5, .int a6, .int a7])), (h2, .inl (cI, 9, .inl g1)), (h4, .inl (cI, 81, .inl g3))] H := hP
            replace hD : va_D A [(h1, .inl (cI, 9, .inl g0)), (h3, .inl (cI, 9, .inl g2)), (h5, .inl (cI, 81, .inl g4)), (h6, .inl (cI, 4608, .inl f_605)), (h0, .inr (7, [.ref h1, .ref h2, .ref h3, .ref h4, .ref h5, .ref h6, .int a0, .int a1, .int a2, .int a3, .int a4, .int a5, .int a6, .int a7])), (h2, .inl (cI, 9, .inl g1)), (h4, .inl (cI, 81, .inl g3))] := hD
            obtain ⟨x_606, ex_606⟩ : ∃ y : Int32, y = x_542 + Int32.ofInt (1) := ⟨_, rfl⟩
            have hx_606 : rg (1) (9) x_606 := by rw [ex_606]; exact rg_mono (rg_add h_578 (rg_k (x := Int32.ofInt (1)) (c := 1) (by decide)) (by decide) (by decide)) (by decide) (by decide)
            have qx_606 : x_606.toInt = x_542.toInt + (1) := by rw [ex_606]; exact rg_addE h_578 (rg_k (x := Int32.ofInt (1)) (c := 1) (by decide)) (by decide) (by decide) (by decide)
            refine lv_iinc (v := x_606) (lv' := [(3, .int x_606), (2, .int 1), (0, .ref h0), (1, .int p0)]) hx hb dX7_fillRow_78 hl (k := 0) rfl (ex_606.symm) (by decide) rfl (fun ls hl => ?_)
            clear ex_606
            refine lv_goto (tgt := 18) hx hb dX7_fillRow_81 (by decide) ?_
            exact ih_575 (x_606, f_605) H locs ls ⟨hP.sub (ws' := [(h0, .inr (7, [.ref h1, .ref h2, .ref h3, .ref h4, .ref h5, .ref h6, .int a0, .int a1, .int a2, .int a3, .int a4, .int a5, .int a6, .int a7])), (h1, .inl (cI, 9, .inl g0)), (h2, .inl (cI, 9, .inl g1)), (h3, .inl (cI, 9, .inl g2)), (h4, .inl (cI, 81, .inl g3)), (h5, .inl (cI, 81, .inl g4)), (h6, .inl (cI, 4608, .inl f_605))]) [4, 0, 5, 1, 6, 2, 3] rfl, hD.sub (ws' := [(h0, .inr (7, [.ref h1, .ref h2, .ref h3, .ref h4, .ref h5, .ref h6, .int a0, .int a1, .int a2, .int a3, .int a4, .int a5, .int a6, .int a7])), (h1, .inl (cI, 9, .inl g0)), (h2, .inl (cI, 9, .inl g1)), (h3, .inl (cI, 9, .inl g2)), (h4, .inl (cI, 81, .inl g3)), (h5, .inl (cI, 81, .inl g4)), (h6, .inl (cI, 4608, .inl f_605))]) [4, 0, 5, 1, 6, 2, 3] (by decide) rfl, hS, lv_sub hl [0, 1, 2, 3] rfl, (rg_mono hx_606 (by decide) (by decide))⟩ (by show ((9) - x_606.toInt).toNat < ((9) - x_542.toInt).toNat; have ha := h_578; simp only [rg] at ha; omega)
def v_s_X7_from : List Cond := Cond.code yX7_from cX7_from 3 (some .int) :: ([Cond.fieldLink RX7 34 "MayRings$Ways" "size" "I", Cond.methodLink RX7 83 yX7_nothing, Cond.instanceMethod yX7_nothing, Cond.selects RX7 yX7_nothing yX7_nothing, Cond.initialized RX7, Cond.fieldLink RX7 9 "MayRings$Ways" "ground" "[I", Cond.fieldLink RX7 53 "MayRings$Ways" "start" "I", Cond.fieldLink RX7 30 "MayRings$Ways" "houses" "I", Cond.methodLink RX7 91 yX7_aheadOf, Cond.instanceMethod yX7_aheadOf, Cond.selects RX7 yX7_aheadOf yX7_aheadOf, Cond.fieldLink RX7 47 "MayRings$Ways" "sort" "I", Cond.constant RX7 78 (1000000), Cond.fieldLink RX7 24 "MayRings$Ways" "placeCosts" "[I", Cond.methodLink RX7 95 Lib.Math.min.name, Cond.static Lib.Math.min.name, Cond.initialized RJ9, Cond.code Lib.Math.min.name Lib.Math.min.code 2 (some .int), Cond.methodLink RX7 87 yX7_fillRow, Cond.instanceMethod yX7_fillRow, Cond.selects RX7 yX7_fillRow yX7_fillRow] ++ (wsX70 ++ (v_s_X7_nothing ++ (v_s_X7_aheadOf ++ (v_s_X7_fillRow ++ ([]))))))
theorem k_s_X7_from : GoodIn lw_tbl v_s_X7_from := gd_c (List.mem_of_getElem? (i := 936) (by decide +kernel)) rfl (goodIn_app (gd_c (List.mem_of_getElem? (i := 454) (by decide +kernel)) rfl (gd_c (List.mem_of_getElem? (i := 937) (by decide +kernel)) rfl (gd_c (List.mem_of_getElem? (i := 939) (by decide +kernel)) rfl (gd_c (List.mem_of_getElem? (i := 40) (by decide +kernel)) rfl (gd_c (List.mem_of_getElem? (i := 142) (by decide +kernel)) rfl (gd_c (List.mem_of_getElem? (i := 440) (by decide +kernel)) rfl (gd_c (List.mem_of_getElem? (i := 464) (by decide +kernel)) rfl (gd_c (List.mem_of_getElem? (i := 452) (by decide +kernel)) rfl (gd_c (List.mem_of_getElem? (i := 970) (by decide +kernel)) rfl (gd_c (List.mem_of_getElem? (i := 972) (by decide +kernel)) rfl (gd_c (List.mem_of_getElem? (i := 48) (by decide +kernel)) rfl (gd_c (List.mem_of_getElem? (i := 462) (by decide +kernel)) rfl (gd_c (List.mem_of_getElem? (i := 941) (by decide +kernel)) rfl (gd_c (List.mem_of_getElem? (i := 449) (by decide +kernel)) rfl (gd_c (List.mem_of_getElem? (i := 974) (by decide +kernel)) rfl (gd_c (List.mem_of_getElem? (i := 589) (by decide +kernel)) rfl (gd_c (List.mem_of_getElem? (i := 145) (by decide +kernel)) rfl (gd_c (List.mem_of_getElem? (i := 590) (by decide +kernel)) rfl (gd_c (List.mem_of_getElem? (i := 942) (by decide +kernel)) rfl (gd_c (List.mem_of_getElem? (i := 944) (by decide +kernel)) rfl (gd_c (List.mem_of_getElem? (i := 41) (by decide +kernel)) rfl (gd_nil)))))))))))))))))))))) (goodIn_app kfX7 (goodIn_app k_s_X7_nothing (goodIn_app k_s_X7_aheadOf (goodIn_app k_s_X7_fillRow (gd_nil))))))
set_option maxHeartbeats 2000000 in
set_option maxRecDepth 100000 in
theorem c_s_X7_from (l : Launch) (dC : Nat → ClassId) (dI : Nat → Nat → Nat) (cB cI cJ cZ cP : ClassId) (h0 : Nat) (h1 : Nat) (g0 : Nat → Int32) (hg0 : rgA (0) (511) g0) (h2 : Nat) (g1 : Nat → Int32) (hg1 : rgA (0) (511) g1) (h3 : Nat) (g2 : Nat → Int32) (hg2 : rgA (0) (511) g2) (h4 : Nat) (g3 : Nat → Int32) (h5 : Nat) (g4 : Nat → Int32) (h6 : Nat) (g5 : Nat → Int32) (a0 : Int32) (ha0 : rg (0) (511) a0) (a1 : Int32) (ha1 : rg (0) (9) a1) (a2 : Int32) (ha2 : rg (0) (1) a2) (a3 : Int32) (a4 : Int32) (a5 : Int32) (ha5 : rg (0) (2) a5) (a6 : Int32) (a7 : Int32) (ha7 : rg (0) (8) a7) (p0 : Int32) (hp0 : rg (0) (8) p0) (sz : Nat) : Met l yX7_from v_s_X7_from ({ frames := 4, cells := 0, slots := 0, locals := 96 }) (va_Pc [.ref h0, .int p0] (fun U => U.heap.size = sz ∧ va_P (dC, dI) vwCl [(h0, .inr (7, [.ref h1, .ref h2, .ref h3, .ref h4, .ref h5, .ref h6, .int a0, .int a1, .int a2, .int a3, .int a4, .int a5, .int a6, .int a7])), (h1, .inl (cI, 9, .inl g0)), (h2, .inl (cI, 9, .inl g1)), (h3, .inl (cI, 9, .inl g2)), (h4, .inl (cI, 81, .inl g3)), (h5, .inl (cI, 81, .inl g4)), (h6, .inl (cI, 4608, .inl g5))] U.heap ∧ va_K (dC, dI) vwCl (ty5 cB cI cJ cZ cP) U ∧ va_D (fun _ => True) [(h0, .inr (7, [.ref h1, .ref h2, .ref h3, .ref h4, .ref h5, .ref h6, .int a0, .int a1, .int a2, .int a3, .int a4, .int a5, .int a6, .int a7])), (h1, .inl (cI, 9, .inl g0)), (h2, .inl (cI, 9, .inl g1)), (h3, .inl (cI, 9, .inl g2)), (h4, .inl (cI, 81, .inl g3)), (h5, .inl (cI, 81, .inl g4)), (h6, .inl (cI, 4608, .inl g5))])) (va_Qi (fun (r : Int32) (u9 : Unit) => True) (fun u9 t => ∃ (z0 : Int32) (z1 : Nat → Int32), rg (0) (8) z0 ∧ va_P (dC, dI) vwCl [(h0, .inr (7, [.ref h1, .ref h2, .ref h3, .ref h4, .ref h5, .ref h6, .int a0, .int a1, .int a2, .int a3, .int a4, .int a5, .int a6, .int z0])), (h1, .inl (cI, 9, .inl g0)), (h2, .inl (cI, 9, .inl g1)), (h3, .inl (cI, 9, .inl g2)), (h4, .inl (cI, 81, .inl g3)), (h5, .inl (cI, 81, .inl g4)), (h6, .inl (cI, 4608, .inl z1))] t.heap ∧ va_D (va_A [(h0, .inr (7, [.ref h1, .ref h2, .ref h3, .ref h4, .ref h5, .ref h6, .int a0, .int a1, .int a2, .int a3, .int a4, .int a5, .int a6, .int a7])), (h1, .inl (cI, 9, .inl g0)), (h2, .inl (cI, 9, .inl g1)), (h3, .inl (cI, 9, .inl g2)), (h4, .inl (cI, 81, .inl g3)), (h5, .inl (cI, 81, .inl g4)), (h6, .inl (cI, 4608, .inl g5))] sz) [(h0, .inr (7, [.ref h1, .ref h2, .ref h3, .ref h4, .ref h5, .ref h6, .int a0, .int a1, .int a2, .int a3, .int a4, .int a5, .int a6, .int z0])), (h1, .inl (cI, 9, .inl g0)), (h2, .inl (cI, 9, .inl g1)), (h3, .inl (cI, 9, .inl g2)), (h4, .inl (cI, 81, .inl g3)), (h5, .inl (cI, 81, .inl g4)), (h6, .inl (cI, 4608, .inl z1))]) (va_A [(h0, .inr (7, [.ref h1, .ref h2, .ref h3, .ref h4, .ref h5, .ref h6, .int a0, .int a1, .int a2, .int a3, .int a4, .int a5, .int a6, .int a7])), (h1, .inl (cI, 9, .inl g0)), (h2, .inl (cI, 9, .inl g1)), (h3, .inl (cI, 9, .inl g2)), (h4, .inl (cI, 81, .inl g3)), (h5, .inl (cI, 81, .inl g4)), (h6, .inl (cI, 4608, .inl g5))] sz)) 0 0 (va_A [(h0, .inr (7, [.ref h1, .ref h2, .ref h3, .ref h4, .ref h5, .ref h6, .int a0, .int a1, .int a2, .int a3, .int a4, .int a5, .int a6, .int a7])), (h1, .inl (cI, 9, .inl g0)), (h2, .inl (cI, 9, .inl g1)), (h3, .inl (cI, 9, .inl g2)), (h4, .inl (cI, 81, .inl g3)), (h5, .inl (cI, 81, .inl g4)), (h6, .inl (cI, 4608, .inl g5))] sz) := by
  refine Met.ofW (cc := cX7_from) (maxL := 3) (ret := (some .int)) (by decide) rfl ?_
  intro p e s m args below meth c s₁ B hml hv
  obtain ⟨rfl, hsz, hP, hK, hD0⟩ := hv
  have hx := B.exec
  have hb := B.bytes
  have hr := B.returns
  have hts := atoms_spec (ws := v_s_X7_from) B.pre
  have hown : s.vm.findClass RX7 = some m.cls := findClass_of_methodNamed B.named
  have hlocks := B.notSynchronized
  have hinX7 : ∀ w ∈ wsX70, w ∈ v_s_X7_from := fun _ h => List.mem_cons_of_mem _ (List.mem_append_right _ (List.mem_append_left _ h))
  subst hsz
  have hD := hD0.self (sz := s.heap.size)
  generalize hAe : va_A [(h0, .inr (7, [.ref h1, .ref h2, .ref h3, .ref h4, .ref h5, .ref h6, .int a0, .int a1, .int a2, .int a3, .int a4, .int a5, .int a6, .int a7])), (h1, .inl (cI, 9, .inl g0)), (h2, .inl (cI, 9, .inl g1)), (h3, .inl (cI, 9, .inl g2)), (h4, .inl (cI, 81, .inl g3)), (h5, .inl (cI, 81, .inl g4)), (h6, .inl (cI, 4608, .inl g5))] s.heap.size = A at hD ⊢
  have hA : ∀ q : Nat, s.heap.size ≤ q → A q := fun q h => by rw [← hAe]; exact Or.inr h
  have hP : va_P (dC, dI) vwCl [(h0, .inr (7, [.ref h1, .ref h2, .ref h3, .ref h4, .ref h5, .ref h6, .int a0, .int a1, .int a2, .int a3, .int a4, .int a5, .int a6, .int a7])), (h1, .inl (cI, 9, .inl g0)), (h2, .inl (cI, 9, .inl g1)), (h3, .inl (cI, 9, .inl g2)), (h4, .inl (cI, 81, .inl g3)), (h5, .inl (cI, 81, .inl g4)), (h6, .inl (cI, 4608, .inl g5))] s.heap := hP
  have hl := lv_entry ([.ref h0, .int p0]) (n := 3) (Nat.le_of_ble_eq_true rfl)
  rw [lg_entry_eq]
  generalize (lg_sl ([.ref h0, .int p0]) ++ List.replicate (3 - (lg_sl ([.ref h0, .int p0])).length) Slot.unset).toArray = ls at hl ⊢
  have hl : lv_has ls 3 [(0, .ref h0), (1, .int p0)] := hl
  refine W_gen (A := A) hP (fun H locs hP hS => ?_)
  refine lv_aload_n hx hb dX7_from_0 rfl (lv_at hl 0 rfl) ?_
  refine va_get (D := (dC, dI)) (ci := 7) (v := .int a1) (C := RX7) (T := TX7) (N := 14) hx hb hts hinX7 hown hK hP 0 rfl rfl 7 (by decide) (hts (.fieldLink RX7 34 "MayRings$Ways" "size" "I") (List.mem_of_getElem? (i := 1) rfl)) (fun _ h9 => h9) rfl dX7_from_1 ?_
  refine lv_if_eq (tgt := 20) hx hb dX7_from_4 (by decide) (fun c_1 => ?_) (fun c_1 => ?_)
  · skip
    have h_2 : rg (0) (0) a1 := by have ha := ha1; have hb_ := (rg_k (x := 0) (c := 0) (by decide)); simp only [rg, fa_lt, fa_le, fa_eq, (by decide : (0 : Int32).toInt = 0)] at ha hb_ c_1; simp only [rg]; omega
    refine lv_aload_n hx hb dX7_from_20 rfl (lv_at hl 0 rfl) ?_
    have hPc := hP.sub (ws' := [(h0, .inr (7, [.ref h1, .ref h2, .ref h3, .ref h4, .ref h5, .ref h6, .int a0, .int a1, .int a2, .int a3, .int a4, .int a5, .int a6, .int a7]))]) [0] rfl
    have hDc := hD.sub (ws' := [(h0, .inr (7, [.ref h1, .ref h2, .ref h3, .ref h4, .ref h5, .ref h6, .int a0, .int a1, .int a2, .int a3, .int a4, .int a5, .int a6, .int a7]))]) [0] (by decide) rfl
    have hFc := va_free (wc := [(h0, .inr (7, [.ref h1, .ref h2, .ref h3, .ref h4, .ref h5, .ref h6, .int a0, .int a1, .int a2, .int a3, .int a4, .int a5, .int a6, .int a7]))]) hD hS hA [0] rfl
    refine va_calli (va_runV (As := []) (rest := []) ⟨hx, hb, hml, hown, hts⟩ (c_s_X7_nothing l dC dI cB cI cJ cZ cP h0 h1 h2 h3 h4 h5 h6 a0 a1 a2 a3 a4 a5 (rg_mono ha5 (by decide) (by decide)) a6 a7 H.size) (cwV 0 hts (gd_V (List.mem_of_getElem? (i := 2) rfl) (List.mem_of_getElem? (i := 3) rfl) (List.mem_of_getElem? (i := 4) rfl) (List.mem_of_getElem? (i := 5) rfl) (gd_mono k_s_X7_nothing (fun _ h => List.mem_cons_of_mem _ (List.mem_append_right _ (List.mem_append_right _ (List.mem_append_left _ h)))))) rfl rfl rfl (by decide +kernel) ⟨Nat.le_of_ble_eq_true rfl, Nat.le_of_ble_eq_true rfl⟩) ⟨fun a U g mk q => by obtain ⟨q0, q1, qP, qK, qD⟩ := q; exact ⟨q0, q1, qP, va_K.moved (u := U) (U := U.calling g mk a) (Vm.Alike.refl U.vm) qK, qD⟩, va_recv hK hPc (ci := 7) (q0 := 0) rfl rfl, fun U hU hW => ⟨rfl, by rw [hU], by rw [hU]; exact hPc, va_K.moved hW.alike hK, hDc.weaken (fun _ _ _ _ => trivial)⟩⟩ rfl rfl hl.1 rfl (lv_room (Nat.le_of_ble_eq_true rfl)) dX7_from_21 ⟨Nat.le_of_ble_eq_true rfl, Nat.le_of_ble_eq_true rfl⟩) hS (fun q _ h => hFc q h) hFc (fun r_3 u t H1 locs ht hvm hw hB hz1 hk1 hS => ?_)
    obtain ⟨hP1, hD1⟩ := hB
    rw [ht] at hP1
    obtain ⟨hP, hD⟩ := va_join (wr := [(h1, .inl (cI, 9, .inl g0)), (h2, .inl (cI, 9, .inl g1)), (h3, .inl (cI, 9, .inl g2)), (h4, .inl (cI, 81, .inl g3)), (h5, .inl (cI, 81, .inl g4)), (h6, .inl (cI, 4608, .inl g5))]) (w1 := [(h0, .inr (7, [.ref h1, .ref h2, .ref h3, .ref h4, .ref h5, .ref h6, .int a0, .int a1, .int a2, .int a3, .int a4, .int a5, .int a6, .int a7]))]) hP hD [0] [1, 2, 3, 4, 5, 6] rfl rfl (by decide) (by decide) hk1 hFc hP1 hD1
    generalize H1 = H at hP hS ⊢
    replace hP : va_P (dC, dI) vwCl [(h1, .inl (cI, 9, .inl g0)), (h2, .inl (cI, 9, .inl g1)), (h3, .inl (cI, 9, .inl g2)), (h4, .inl (cI, 81, .inl g3)), (h5, .inl (cI, 81, .inl g4)), (h6, .inl (cI, 4608, .inl g5)), (h0, .inr (7, [.ref h1, .ref h2, .ref h3, .ref h4, .ref h5, .ref h6, .int a0, .int a1, .int a2, .int a3, .int a4, .int a5, .int a6, .int a7]))] H := hP
    replace hD : va_D A [(h1, .inl (cI, 9, .inl g0)), (h2, .inl (cI, 9, .inl g1)), (h3, .inl (cI, 9, .inl g2)), (h4, .inl (cI, 81, .inl g3)), (h5, .inl (cI, 81, .inl g4)), (h6, .inl (cI, 4608, .inl g5)), (h0, .inr (7, [.ref h1, .ref h2, .ref h3, .ref h4, .ref h5, .ref h6, .int a0, .int a1, .int a2, .int a3, .int a4, .int a5, .int a6, .int a7]))] := hD
    have hr_3 : rg (-1) (1000000) r_3 := hw
    have hP9 := hP.sub (ws' := [(h0, .inr (7, [.ref h1, .ref h2, .ref h3, .ref h4, .ref h5, .ref h6, .int a0, .int a1, .int a2, .int a3, .int a4, .int a5, .int a6, .int a7])), (h1, .inl (cI, 9, .inl g0)), (h2, .inl (cI, 9, .inl g1)), (h3, .inl (cI, 9, .inl g2)), (h4, .inl (cI, 81, .inl g3)), (h5, .inl (cI, 81, .inl g4)), (h6, .inl (cI, 4608, .inl g5))]) [6, 0, 1, 2, 3, 4, 5] rfl
    have hD9 := hD.sub (ws' := [(h0, .inr (7, [.ref h1, .ref h2, .ref h3, .ref h4, .ref h5, .ref h6, .int a0, .int a1, .int a2, .int a3, .int a4, .int a5, .int a6, .int a7])), (h1, .inl (cI, 9, .inl g0)), (h2, .inl (cI, 9, .inl g1)), (h3, .inl (cI, 9, .inl g2)), (h4, .inl (cI, 81, .inl g3)), (h5, .inl (cI, 81, .inl g4)), (h6, .inl (cI, 4608, .inl g5))]) [6, 0, 1, 2, 3, 4, 5] (by decide) rfl
    exact W.iret (v := r_3) hx hb hr (fun t ht hW => ⟨⟨r_3, (), rfl, trivial, ⟨a7, g5, (rg_mono ha7 (by decide) (by decide)), by rw [ht]; exact hP9, hD9⟩⟩, hS.F ht⟩) hS.2.2 dX7_from_24
  · skip
    have h_4 : rg (1) (9) a1 := by have ha := ha1; have hb_ := (rg_k (x := 0) (c := 0) (by decide)); simp only [rg, fa_lt, fa_le, fa_eq, (by decide : (0 : Int32).toInt = 0)] at ha hb_ c_1; simp only [rg]; omega
    refine lv_aload_n hx hb dX7_from_7 rfl (lv_at hl 0 rfl) ?_
    refine va_get (D := (dC, dI)) (ci := 7) (v := .ref h1) (C := RX7) (T := TX7) (N := 14) hx hb hts hinX7 hown hK hP 0 rfl rfl 0 (by decide) (hts (.fieldLink RX7 9 "MayRings$Ways" "ground" "[I") (List.mem_of_getElem? (i := 6) rfl)) (fun _ h9 => h9) rfl dX7_from_8 ?_
    refine lv_iconst (v := 0) hx hb dX7_from_11 (by decide) ?_
    refine va_iald hx hb hK hP 1 1 rfl rfl (rg_in (n := 9) (rg_mono (rg_k (x := 0) (c := 0) (by decide)) (by decide) (by decide))) dX7_from_12 ?_
    refine lv_topi (fun x_5 ex_5 => ?_)
    have hx_5 : rg (0) (511) x_5 := by rw [ex_5]; exact rg_mono (hg0 _) (by decide) (by decide)
    refine lv_iload_n hx hb dX7_from_13 rfl (lv_at hl 1 rfl) ?_
    refine lv_ishr hx hb dX7_from_14 ?_
    refine lv_topi (fun x_6 ex_6 => ?_)
    have hx_6 : rg (0) (511) x_6 := by rw [ex_6]; exact rg_mono (rg_shr (b := 511) (rg_mono hx_5 (by decide) (by decide))) (by decide) (by decide)
    have kx_6_0 : rg 1 2147483647 x_6 → rg 1 (511) x_5 := fun hq => rg_shrP hx_5 (ex_6 ▸ hq)
    refine lv_iconst (v := 1) hx hb dX7_from_15 (by decide) ?_
    refine lv_iand hx hb dX7_from_16 ?_
    refine lv_topi (fun x_7 ex_7 => ?_)
    have hx_7 : rg (0) (1) x_7 := by rw [ex_7]; exact rg_mono (rg_andr (b := 1) (rg_mono (rg_k (x := 1) (c := 1) (by decide)) (by decide) (by decide))) (by decide) (by decide)
    have kx_7_0 : rg 1 2147483647 x_7 → rg 1 (511) x_6 := fun hq => rg_andP hx_6 (ex_7 ▸ hq)
    refine lv_if_ne (tgt := 25) hx hb dX7_from_17 (by decide) (fun c_8 => ?_) (fun c_8 => ?_)
    · skip
      have h_9 : rg (1) (1) x_7 := by have ha := hx_7; have hb_ := (rg_k (x := 0) (c := 0) (by decide)); simp only [rg, fa_lt, fa_le, fa_eq, (by decide : (0 : Int32).toInt = 0)] at ha hb_ c_8; simp only [rg]; omega
      have h_10 : rg (1) (511) x_6 := rg_meet hx_6 (kx_7_0 (rg_mono h_9 (by decide) (by decide))) (by decide) (by decide)
      have h_11 : rg (1) (511) x_5 := rg_meet hx_5 (kx_6_0 (rg_mono h_10 (by decide) (by decide))) (by decide) (by decide)
      refine lv_aload_n hx hb dX7_from_25 rfl (lv_at hl 0 rfl) ?_
      refine lv_iload_n hx hb dX7_from_26 rfl (lv_at hl 1 rfl) ?_
      refine va_put (D := (dC, dI)) (ci := 7) (v := .int p0) (ty := .int) (C := RX7) (T := TX7) (N := 14) hx hb hts hinX7 tyX7 tyX7_ok nmX7 hown hK hP hD hS 0 rfl rfl 13 (by decide) (hts (.fieldLink RX7 53 "MayRings$Ways" "start" "I") (List.mem_of_getElem? (i := 7) rfl)) (fun _ h9 => h9) rfl (by decide +kernel) (rfl) (rfl) (Nat.le_of_ble_eq_true rfl) dX7_from_27 (fun H locs hP hD hS => ?_)
      replace hP : va_P (dC, dI) vwCl [(h0, .inr (7, [.ref h1, .ref h2, .ref h3, .ref h4, .ref h5, .ref h6, .int a0, .int a1, .int a2, .int a3, .int a4, .int a5, .int a6, .int p0])), (h1, .inl (cI, 9, .inl g0)), (h2, .inl (cI, 9, .inl g1)), (h3, .inl (cI, 9, .inl g2)), (h4, .inl (cI, 81, .inl g3)), (h5, .inl (cI, 81, .inl g4)), (h6, .inl (cI, 4608, .inl g5))] H := hP
      replace hD : va_D A [(h0, .inr (7, [.ref h1, .ref h2, .ref h3, .ref h4, .ref h5, .ref h6, .int a0, .int a1, .int a2, .int a3, .int a4, .int a5, .int a6, .int p0])), (h1, .inl (cI, 9, .inl g0)), (h2, .inl (cI, 9, .inl g1)), (h3, .inl (cI, 9, .inl g2)), (h4, .inl (cI, 81, .inl g3)), (h5, .inl (cI, 81, .inl g4)), (h6, .inl (cI, 4608, .inl g5))] := hD
      refine lv_aload_n hx hb dX7_from_30 rfl (lv_at hl 0 rfl) ?_
      refine va_get (D := (dC, dI)) (ci := 7) (v := .int a0) (C := RX7) (T := TX7) (N := 14) hx hb hts hinX7 hown hK hP 0 rfl rfl 6 (by decide) (hts (.fieldLink RX7 30 "MayRings$Ways" "houses" "I") (List.mem_of_getElem? (i := 8) rfl)) (fun _ h9 => h9) rfl dX7_from_31 ?_
      refine lv_istore_n (lv' := [(2, .int a0), (0, .ref h0), (1, .int p0)]) hx hb dX7_from_34 rfl hl (by decide) rfl (fun ls hl => ?_)
      refine W_loopM (σ := Int32 × (Nat → Int32)) (fun u H locs ls => va_P (dC, dI) vwCl [(h0, .inr (7, [.ref h1, .ref h2, .ref h3, .ref h4, .ref h5, .ref h6, .int a0, .int a1, .int a2, .int a3, .int a4, .int a5, .int a6, .int p0])), (h1, .inl (cI, 9, .inl g0)), (h2, .inl (cI, 9, .inl g1)), (h3, .inl (cI, 9, .inl g2)), (h4, .inl (cI, 81, .inl g3)), (h5, .inl (cI, 81, .inl g4)), (h6, .inl (cI, 4608, .inl u.2))] H ∧ va_D A [(h0, .inr (7, [.ref h1, .ref h2, .ref h3, .ref h4, .ref h5, .ref h6, .int a0, .int a1, .int a2, .int a3, .int a4, .int a5, .int a6, .int p0])), (h1, .inl (cI, 9, .inl g0)), (h2, .inl (cI, 9, .inl g1)), (h3, .inl (cI, 9, .inl g2)), (h4, .inl (cI, 81, .inl g3)), (h5, .inl (cI, 81, .inl g4)), (h6, .inl (cI, 4608, .inl u.2))] ∧ va_S A s.heap H locs ∧ lv_has ls 3 [(2, .int u.1), (0, .ref h0), (1, .int p0)] ∧ rg (0) (511) u.1) (fun u => (u.1.toInt - (0)).toNat) 35 [] ?_ (a0, g5) H locs ls ⟨hP, hD, hS, hl, (rg_mono ha0 (by decide) (by decide))⟩
      rintro ⟨x_39, f_40⟩ H locs ls ⟨hP, hD, hS, hl, hx_39⟩ ih_68
      replace hP : va_P (dC, dI) vwCl [(h0, .inr (7, [.ref h1, .ref h2, .ref h3, .ref h4, .ref h5, .ref h6, .int a0, .int a1, .int a2, .int a3, .int a4, .int a5, .int a6, .int p0])), (h1, .inl (cI, 9, .inl g0)), (h2, .inl (cI, 9, .inl g1)), (h3, .inl (cI, 9, .inl g2)), (h4, .inl (cI, 81, .inl g3)), (h5, .inl (cI, 81, .inl g4)), (h6, .inl (cI, 4608, .inl f_40))] H := hP
      replace hD : va_D A [(h0, .inr (7, [.ref h1, .ref h2, .ref h3, .ref h4, .ref h5, .ref h6, .int a0, .int a1, .int a2, .int a3, .int a4, .int a5, .int a6, .int p0])), (h1, .inl (cI, 9, .inl g0)), (h2, .inl (cI, 9, .inl g1)), (h3, .inl (cI, 9, .inl g2)), (h4, .inl (cI, 81, .inl g3)), (h5, .inl (cI, 81, .inl g4)), (h6, .inl (cI, 4608, .inl f_40))] := hD
      replace hl : lv_has ls 3 [(2, .int x_39), (0, .ref h0), (1, .int p0)] := hl
      replace hx_39 : rg (0) (511) x_39 := hx_39
      refine lv_iload_n hx hb dX7_from_35 rfl (lv_at hl 0 rfl) ?_
      refine lv_if_le (tgt := 70) hx hb dX7_from_36 (by decide) (fun c_69 => ?_) (fun c_69 => ?_)
      · skip
        have h_70 : rg (0) (0) x_39 := by have ha := hx_39; have hb_ := (rg_k (x := 0) (c := 0) (by decide)); simp only [rg, fa_lt, fa_le, fa_eq, (by decide : (0 : Int32).toInt = 0)] at ha hb_ c_69; simp only [rg]; omega
        refine lv_aload_n hx hb dX7_from_70 rfl (lv_at hl 1 rfl) ?_
        refine lv_iconst (v := 1) hx hb dX7_from_71 (by decide) ?_
        refine lv_iload_n hx hb dX7_from_72 rfl (lv_at hl 2 rfl) ?_
        refine lv_ishl hx hb dX7_from_73 ?_
        refine lv_topi (fun x_71 ex_71 => ?_)
        have hx_71 : rg (1) (256) x_71 := by rw [ex_71]; exact rg_mono (rg_shl1 8 (rg_mono hp0 (by decide) (by decide)) (by decide)) (by decide) (by decide)
        refine lv_iload_n hx hb dX7_from_74 rfl (lv_at hl 2 rfl) ?_
        have hPc := hP.sub (ws' := [(h0, .inr (7, [.ref h1, .ref h2, .ref h3, .ref h4, .ref h5, .ref h6, .int a0, .int a1, .int a2, .int a3, .int a4, .int a5, .int a6, .int p0])), (h6, .inl (cI, 4608, .inl f_40))]) [0, 6] rfl
        have hDc := hD.sub (ws' := [(h0, .inr (7, [.ref h1, .ref h2, .ref h3, .ref h4, .ref h5, .ref h6, .int a0, .int a1, .int a2, .int a3, .int a4, .int a5, .int a6, .int p0])), (h6, .inl (cI, 4608, .inl f_40))]) [0, 6] (by decide) rfl
        have hFc := va_free (wc := [(h0, .inr (7, [.ref h1, .ref h2, .ref h3, .ref h4, .ref h5, .ref h6, .int a0, .int a1, .int a2, .int a3, .int a4, .int a5, .int a6, .int p0])), (h6, .inl (cI, 4608, .inl f_40))]) hD hS hA [0, 6] rfl
        refine va_calli (va_runV (As := [.int x_71, .int p0]) (rest := []) ⟨hx, hb, hml, hown, hts⟩ (c_s_X7_aheadOf l dC dI cB cI cJ cZ cP h0 h1 h2 h3 h4 h5 h6 f_40 a0 a1 a2 a3 a4 a5 a6 p0 x_71 (rg_mono hx_71 (by decide) (by decide)) p0 (rg_mono hp0 (by decide) (by decide)) H.size) (cwV 2 hts (gd_V (List.mem_of_getElem? (i := 9) rfl) (List.mem_of_getElem? (i := 10) rfl) (List.mem_of_getElem? (i := 11) rfl) (List.mem_of_getElem? (i := 5) rfl) (gd_mono k_s_X7_aheadOf (fun _ h => List.mem_cons_of_mem _ (List.mem_append_right _ (List.mem_append_right _ (List.mem_append_right _ (List.mem_append_left _ h))))))) rfl rfl rfl (by decide +kernel) ⟨Nat.le_of_ble_eq_true rfl, Nat.le_of_ble_eq_true rfl⟩) ⟨fun a U g mk q => by obtain ⟨q0, q1, qP, qK, qD⟩ := q; exact ⟨q0, q1, qP, va_K.moved (u := U) (U := U.calling g mk a) (Vm.Alike.refl U.vm) qK, qD⟩, va_recv hK hPc (ci := 7) (q0 := 0) rfl rfl, fun U hU hW => ⟨rfl, by rw [hU], by rw [hU]; exact hPc, va_K.moved hW.alike hK, hDc.weaken (fun _ _ _ _ => trivial)⟩⟩ rfl rfl hl.1 rfl (lv_room (Nat.le_of_ble_eq_true rfl)) dX7_from_75 ⟨Nat.le_of_ble_eq_true rfl, Nat.le_of_ble_eq_true rfl⟩) hS (fun q _ h => hFc q h) hFc (fun r_72 u t H1 locs ht hvm hw hB hz1 hk1 hS => ?_)
        obtain ⟨hP1, hD1⟩ := hB
        rw [ht] at hP1
        obtain ⟨hP, hD⟩ := va_join (wr := [(h1, .inl (cI, 9, .inl g0)), (h2, .inl (cI, 9, .inl g1)), (h3, .inl (cI, 9, .inl g2)), (h4, .inl (cI, 81, .inl g3)), (h5, .inl (cI, 81, .inl g4))]) (w1 := [(h0, .inr (7, [.ref h1, .ref h2, .ref h3, .ref h4, .ref h5, .ref h6, .int a0, .int a1, .int a2, .int a3, .int a4, .int a5, .int a6, .int p0])), (h6, .inl (cI, 4608, .inl f_40))]) hP hD [0, 6] [1, 2, 3, 4, 5] rfl rfl (by decide) (by decide) hk1 hFc hP1 hD1
        generalize H1 = H at hP hS ⊢
        replace hP : va_P (dC, dI) vwCl [(h1, .inl (cI, 9, .inl g0)), (h2, .inl (cI, 9, .inl g1)), (h3, .inl (cI, 9, .inl g2)), (h4, .inl (cI, 81, .inl g3)), (h5, .inl (cI, 81, .inl g4)), (h0, .inr (7, [.ref h1, .ref h2, .ref h3, .ref h4, .ref h5, .ref h6, .int a0, .int a1, .int a2, .int a3, .int a4, .int a5, .int a6, .int p0])), (h6, .inl (cI, 4608, .inl f_40))] H := hP
        replace hD : va_D A [(h1, .inl (cI, 9, .inl g0)), (h2, .inl (cI, 9, .inl g1)), (h3, .inl (cI, 9, .inl g2)), (h4, .inl (cI, 81, .inl g3)), (h5, .inl (cI, 81, .inl g4)), (h0, .inr (7, [.ref h1, .ref h2, .ref h3, .ref h4, .ref h5, .ref h6, .int a0, .int a1, .int a2, .int a3, .int a4, .int a5, .int a6, .int p0])), (h6, .inl (cI, 4608, .inl f_40))] := hD
        refine lv_istore_n (lv' := [(2, .int r_72), (0, .ref h0), (1, .int p0)]) hx hb dX7_from_78 rfl hl (by decide) rfl (fun ls hl => ?_)
        refine lv_aload_n hx hb dX7_from_79 rfl (lv_at hl 1 rfl) ?_
        refine va_get (D := (dC, dI)) (ci := 7) (v := .int a5) (C := RX7) (T := TX7) (N := 14) hx hb hts hinX7 hown hK hP 5 rfl rfl 11 (by decide) (hts (.fieldLink RX7 47 "MayRings$Ways" "sort" "I") (List.mem_of_getElem? (i := 12) rfl)) (fun _ h9 => h9) rfl dX7_from_80 ?_
        refine lv_iconst (v := 1) hx hb dX7_from_83 (by decide) ?_
        refine lv_icmp_ne (tgt := 106) hx hb dX7_from_84 (by decide) (fun c_73 => ?_) (fun c_73 => ?_)
        · skip
          refine lv_iload_n hx hb dX7_from_106 rfl (lv_at hl 0 rfl) ?_
          have hP9 := hP.sub (ws' := [(h0, .inr (7, [.ref h1, .ref h2, .ref h3, .ref h4, .ref h5, .ref h6, .int a0, .int a1, .int a2, .int a3, .int a4, .int a5, .int a6, .int p0])), (h1, .inl (cI, 9, .inl g0)), (h2, .inl (cI, 9, .inl g1)), (h3, .inl (cI, 9, .inl g2)), (h4, .inl (cI, 81, .inl g3)), (h5, .inl (cI, 81, .inl g4)), (h6, .inl (cI, 4608, .inl f_40))]) [5, 0, 1, 2, 3, 4, 6] rfl
          have hD9 := hD.sub (ws' := [(h0, .inr (7, [.ref h1, .ref h2, .ref h3, .ref h4, .ref h5, .ref h6, .int a0, .int a1, .int a2, .int a3, .int a4, .int a5, .int a6, .int p0])), (h1, .inl (cI, 9, .inl g0)), (h2, .inl (cI, 9, .inl g1)), (h3, .inl (cI, 9, .inl g2)), (h4, .inl (cI, 81, .inl g3)), (h5, .inl (cI, 81, .inl g4)), (h6, .inl (cI, 4608, .inl f_40))]) [5, 0, 1, 2, 3, 4, 6] (by decide) rfl
          exact W.iret (v := r_72) hx hb hr (fun t ht hW => ⟨⟨r_72, (), rfl, trivial, ⟨p0, f_40, (rg_mono hp0 (by decide) (by decide)), by rw [ht]; exact hP9, hD9⟩⟩, hS.F ht⟩) hS.2.2 dX7_from_107
        · skip
          have h_74 : rg (1) (1) a5 := by have ha := ha5; have hb_ := (rg_k (x := 1) (c := 1) (by decide)); simp only [rg, fa_lt, fa_le, fa_eq, (by decide : (1 : Int32).toInt = 1)] at ha hb_ c_73; simp only [rg]; omega
          refine lv_ldc (v := 1000000) hx hb hown (hts (.constant RX7 78 (1000000)) (List.mem_of_getElem? (i := 13) rfl)) dX7_from_87 ?_
          refine lv_iload_n hx hb dX7_from_89 rfl (lv_at hl 0 rfl) ?_
          refine lv_aload_n hx hb dX7_from_90 rfl (lv_at hl 1 rfl) ?_
          refine va_get (D := (dC, dI)) (ci := 7) (v := .ref h5) (C := RX7) (T := TX7) (N := 14) hx hb hts hinX7 hown hK hP 5 rfl rfl 4 (by decide) (hts (.fieldLink RX7 24 "MayRings$Ways" "placeCosts" "[I") (List.mem_of_getElem? (i := 14) rfl)) (fun _ h9 => h9) rfl dX7_from_91 ?_
          refine lv_iload_n hx hb dX7_from_94 rfl (lv_at hl 2 rfl) ?_
          refine lv_bipush (v := 9) hx hb dX7_from_95 (by decide) ?_
          refine lv_imul hx hb dX7_from_97 ?_
          refine lv_topi (fun x_75 ex_75 => ?_)
          have hx_75 : rg (0) (72) x_75 := by rw [ex_75]; exact rg_mono (rg_mul hp0 (rg_k (x := 9) (c := 9) (by decide)) (by decide) (by decide) (by decide)) (by decide) (by decide)
          refine va_iald hx hb hK hP 4 1 rfl rfl (rg_in (n := 81) (rg_mono hx_75 (by decide) (by decide))) dX7_from_98 ?_
          refine lv_topi (fun x_76 ex_76 => ?_)
          refine lv_iadd hx hb dX7_from_99 ?_
          refine lv_topi (fun x_77 ex_77 => ?_)
          refine va_mmin hx hb (by rw [hml]; exact hl.1.symm) hown (hts (.methodLink RX7 95 Lib.Math.min.name) (List.mem_of_getElem? (i := 15) rfl)) (hts (.static Lib.Math.min.name) (List.mem_of_getElem? (i := 16) rfl)) (hts (.initialized RJ9) (List.mem_of_getElem? (i := 17) rfl)) (hts (.code Lib.Math.min.name Lib.Math.min.code 2 (some .int)) (List.mem_of_getElem? (i := 18) rfl)) (Nat.le_of_ble_eq_true rfl) (Nat.le_of_ble_eq_true rfl) (Nat.le_of_ble_eq_true rfl) (Nat.le_of_ble_eq_true rfl) dX7_from_100 ?_
          refine lv_topi (fun x_78 ex_78 => ?_)
          have hx_78 : rg (-2147483648) (1000000) x_78 := by rw [ex_78]; exact rg_mono (rg_min (rg_k (x := 1000000) (c := 1000000) (by decide)) (rg_any x_77)) (by decide) (by decide)
          clear ex_78
          refine lv_goto (tgt := 107) hx hb dX7_from_103 (by decide) ?_
          have hP9 := hP.sub (ws' := [(h0, .inr (7, [.ref h1, .ref h2, .ref h3, .ref h4, .ref h5, .ref h6, .int a0, .int a1, .int a2, .int a3, .int a4, .int a5, .int a6, .int p0])), (h1, .inl (cI, 9, .inl g0)), (h2, .inl (cI, 9, .inl g1)), (h3, .inl (cI, 9, .inl g2)), (h4, .inl (cI, 81, .inl g3)), (h5, .inl (cI, 81, .inl g4)), (h6, .inl (cI, 4608, .inl f_40))]) [5, 0, 1, 2, 3, 4, 6] rfl
          have hD9 := hD.sub (ws' := [(h0, .inr (7, [.ref h1, .ref h2, .ref h3, .ref h4, .ref h5, .ref h6, .int a0, .int a1, .int a2, .int a3, .int a4, .int a5, .int a6, .int p0])), (h1, .inl (cI, 9, .inl g0)), (h2, .inl (cI, 9, .inl g1)), (h3, .inl (cI, 9, .inl g2)), (h4, .inl (cI, 81, .inl g3)), (h5, .inl (cI, 81, .inl g4)), (h6, .inl (cI, 4608, .inl f_40))]) [5, 0, 1, 2, 3, 4, 6] (by decide) rfl
          exact W.iret (v := x_78) hx hb hr (fun t ht hW => ⟨⟨x_78, (), rfl, trivial, ⟨p0, f_40, (rg_mono hp0 (by decide) (by decide)), by rw [ht]; exact hP9, hD9⟩⟩, hS.F ht⟩) hS.2.2 dX7_from_107
      · skip
        have h_79 : rg (1) (511) x_39 := by have ha := hx_39; have hb_ := (rg_k (x := 0) (c := 0) (by decide)); simp only [rg, fa_lt, fa_le, fa_eq, (by decide : (0 : Int32).toInt = 0)] at ha hb_ c_69; simp only [rg]; omega
        refine lv_iload_n hx hb dX7_from_39 rfl (lv_at hl 0 rfl) ?_
        refine lv_aload_n hx hb dX7_from_40 rfl (lv_at hl 1 rfl) ?_
        refine va_get (D := (dC, dI)) (ci := 7) (v := .int a0) (C := RX7) (T := TX7) (N := 14) hx hb hts hinX7 hown hK hP 0 rfl rfl 6 (by decide) (hts (.fieldLink RX7 30 "MayRings$Ways" "houses" "I") (List.mem_of_getElem? (i := 8) rfl)) (fun _ h9 => h9) rfl dX7_from_41 ?_
        refine lv_iconst (v := (-1)) hx hb dX7_from_44 (by decide) ?_
        refine lv_ixor hx hb dX7_from_45 ?_
        refine lv_topi (fun x_80 ex_80 => ?_)
        refine lv_iand hx hb dX7_from_46 ?_
        refine lv_topi (fun x_81 ex_81 => ?_)
        have hx_81 : rg (0) (511) x_81 := by rw [ex_81]; exact rg_mono (rg_andl (b := 511) (rg_mono h_79 (by decide) (by decide))) (by decide) (by decide)
        refine lv_if_ne (tgt := 64) hx hb dX7_from_47 (by decide) (fun c_82 => ?_) (fun c_82 => ?_)
        · skip
          have h_83 : rg (1) (511) x_81 := by have ha := hx_81; have hb_ := (rg_k (x := 0) (c := 0) (by decide)); simp only [rg, fa_lt, fa_le, fa_eq, (by decide : (0 : Int32).toInt = 0)] at ha hb_ c_82; simp only [rg]; omega
          obtain ⟨x_84, ex_84⟩ : ∃ y : Int32, y = x_39 + Int32.ofInt (-1) := ⟨_, rfl⟩
          have hx_84 : rg (0) (510) x_84 := by rw [ex_84]; exact rg_mono (rg_add h_79 (rg_k (x := Int32.ofInt (-1)) (c := -1) (by decide)) (by decide) (by decide)) (by decide) (by decide)
          have qx_84 : x_84.toInt = x_39.toInt + (-1) := by rw [ex_84]; exact rg_addE h_79 (rg_k (x := Int32.ofInt (-1)) (c := -1) (by decide)) (by decide) (by decide) (by decide)
          refine lv_iinc (v := x_84) (lv' := [(2, .int x_84), (0, .ref h0), (1, .int p0)]) hx hb dX7_from_64 hl (k := 0) rfl (ex_84.symm) (by decide) rfl (fun ls hl => ?_)
          clear ex_84
          refine lv_goto (tgt := 35) hx hb dX7_from_67 (by decide) ?_
          exact ih_68 (x_84, f_40) H locs ls ⟨hP.sub (ws' := [(h0, .inr (7, [.ref h1, .ref h2, .ref h3, .ref h4, .ref h5, .ref h6, .int a0, .int a1, .int a2, .int a3, .int a4, .int a5, .int a6, .int p0])), (h1, .inl (cI, 9, .inl g0)), (h2, .inl (cI, 9, .inl g1)), (h3, .inl (cI, 9, .inl g2)), (h4, .inl (cI, 81, .inl g3)), (h5, .inl (cI, 81, .inl g4)), (h6, .inl (cI, 4608, .inl f_40))]) [0, 1, 2, 3, 4, 5, 6] rfl, hD.sub (ws' := [(h0, .inr (7, [.ref h1, .ref h2, .ref h3, .ref h4, .ref h5, .ref h6, .int a0, .int a1, .int a2, .int a3, .int a4, .int a5, .int a6, .int p0])), (h1, .inl (cI, 9, .inl g0)), (h2, .inl (cI, 9, .inl g1)), (h3, .inl (cI, 9, .inl g2)), (h4, .inl (cI, 81, .inl g3)), (h5, .inl (cI, 81, .inl g4)), (h6, .inl (cI, 4608, .inl f_40))]) [0, 1, 2, 3, 4, 5, 6] (by decide) rfl, hS, lv_sub hl [0, 1, 2] rfl, (rg_mono hx_84 (by decide) (by decide))⟩ (by show (x_84.toInt - (0)).toNat < (x_39.toInt - (0)).toNat; have ha := h_79; simp only [rg] at ha; omega)
        · skip
          have h_85 : rg (0) (0) x_81 := by have ha := hx_81; have hb_ := (rg_k (x := 0) (c := 0) (by decide)); simp only [rg, fa_lt, fa_le, fa_eq, (by decide : (0 : Int32).toInt = 0)] at ha hb_ c_82; simp only [rg]; omega
          refine lv_iload_n hx hb dX7_from_50 rfl (lv_at hl 0 rfl) ?_
          refine lv_iload_n hx hb dX7_from_51 rfl (lv_at hl 2 rfl) ?_
          refine lv_ishr hx hb dX7_from_52 ?_
          refine lv_topi (fun x_86 ex_86 => ?_)
          have hx_86 : rg (0) (511) x_86 := by rw [ex_86]; exact rg_mono (rg_shr (b := 511) (rg_mono h_79 (by decide) (by decide))) (by decide) (by decide)
          refine lv_iconst (v := 1) hx hb dX7_from_53 (by decide) ?_
          refine lv_iand hx hb dX7_from_54 ?_
          refine lv_topi (fun x_87 ex_87 => ?_)
          have hx_87 : rg (0) (1) x_87 := by rw [ex_87]; exact rg_mono (rg_andr (b := 1) (rg_mono (rg_k (x := 1) (c := 1) (by decide)) (by decide) (by decide))) (by decide) (by decide)
          have kx_87_0 : rg 1 2147483647 x_87 → rg 1 (511) x_86 := fun hq => rg_andP hx_86 (ex_87 ▸ hq)
          refine lv_iconst (v := 1) hx hb dX7_from_55 (by decide) ?_
          refine lv_icmp_ne (tgt := 64) hx hb dX7_from_56 (by decide) (fun c_88 => ?_) (fun c_88 => ?_)
          · skip
            have h_89 : rg (0) (0) x_87 := by have ha := hx_87; have hb_ := (rg_k (x := 1) (c := 1) (by decide)); simp only [rg, fa_lt, fa_le, fa_eq, (by decide : (1 : Int32).toInt = 1)] at ha hb_ c_88; simp only [rg]; omega
            obtain ⟨x_90, ex_90⟩ : ∃ y : Int32, y = x_39 + Int32.ofInt (-1) := ⟨_, rfl⟩
            have hx_90 : rg (0) (510) x_90 := by rw [ex_90]; exact rg_mono (rg_add h_79 (rg_k (x := Int32.ofInt (-1)) (c := -1) (by decide)) (by decide) (by decide)) (by decide) (by decide)
            have qx_90 : x_90.toInt = x_39.toInt + (-1) := by rw [ex_90]; exact rg_addE h_79 (rg_k (x := Int32.ofInt (-1)) (c := -1) (by decide)) (by decide) (by decide) (by decide)
            refine lv_iinc (v := x_90) (lv' := [(2, .int x_90), (0, .ref h0), (1, .int p0)]) hx hb dX7_from_64 hl (k := 0) rfl (ex_90.symm) (by decide) rfl (fun ls hl => ?_)
            clear ex_90
            refine lv_goto (tgt := 35) hx hb dX7_from_67 (by decide) ?_
            exact ih_68 (x_90, f_40) H locs ls ⟨hP.sub (ws' := [(h0, .inr (7, [.ref h1, .ref h2, .ref h3, .ref h4, .ref h5, .ref h6, .int a0, .int a1, .int a2, .int a3, .int a4, .int a5, .int a6, .int p0])), (h1, .inl (cI, 9, .inl g0)), (h2, .inl (cI, 9, .inl g1)), (h3, .inl (cI, 9, .inl g2)), (h4, .inl (cI, 81, .inl g3)), (h5, .inl (cI, 81, .inl g4)), (h6, .inl (cI, 4608, .inl f_40))]) [0, 1, 2, 3, 4, 5, 6] rfl, hD.sub (ws' := [(h0, .inr (7, [.ref h1, .ref h2, .ref h3, .ref h4, .ref h5, .ref h6, .int a0, .int a1, .int a2, .int a3, .int a4, .int a5, .int a6, .int p0])), (h1, .inl (cI, 9, .inl g0)), (h2, .inl (cI, 9, .inl g1)), (h3, .inl (cI, 9, .inl g2)), (h4, .inl (cI, 81, .inl g3)), (h5, .inl (cI, 81, .inl g4)), (h6, .inl (cI, 4608, .inl f_40))]) [0, 1, 2, 3, 4, 5, 6] (by decide) rfl, hS, lv_sub hl [0, 1, 2] rfl, (rg_mono hx_90 (by decide) (by decide))⟩ (by show (x_90.toInt - (0)).toNat < (x_39.toInt - (0)).toNat; have ha := h_79; simp only [rg] at ha; omega)
          · skip
            have h_91 : rg (1) (1) x_87 := by have ha := hx_87; have hb_ := (rg_k (x := 1) (c := 1) (by decide)); simp only [rg, fa_lt, fa_le, fa_eq, (by decide : (1 : Int32).toInt = 1)] at ha hb_ c_88; simp only [rg]; omega
            have h_92 : rg (1) (511) x_86 := rg_meet hx_86 (kx_87_0 (rg_mono h_91 (by decide) (by decide))) (by decide) (by decide)
            refine lv_aload_n hx hb dX7_from_59 rfl (lv_at hl 1 rfl) ?_
            refine lv_iload_n hx hb dX7_from_60 rfl (lv_at hl 0 rfl) ?_
            have hPc := hP.sub (ws' := [(h0, .inr (7, [.ref h1, .ref h2, .ref h3, .ref h4, .ref h5, .ref h6, .int a0, .int a1, .int a2, .int a3, .int a4, .int a5, .int a6, .int p0])), (h1, .inl (cI, 9, .inl g0)), (h2, .inl (cI, 9, .inl g1)), (h3, .inl (cI, 9, .inl g2)), (h4, .inl (cI, 81, .inl g3)), (h5, .inl (cI, 81, .inl g4)), (h6, .inl (cI, 4608, .inl f_40))]) [0, 1, 2, 3, 4, 5, 6] rfl
            have hDc := hD.sub (ws' := [(h0, .inr (7, [.ref h1, .ref h2, .ref h3, .ref h4, .ref h5, .ref h6, .int a0, .int a1, .int a2, .int a3, .int a4, .int a5, .int a6, .int p0])), (h1, .inl (cI, 9, .inl g0)), (h2, .inl (cI, 9, .inl g1)), (h3, .inl (cI, 9, .inl g2)), (h4, .inl (cI, 81, .inl g3)), (h5, .inl (cI, 81, .inl g4)), (h6, .inl (cI, 4608, .inl f_40))]) [0, 1, 2, 3, 4, 5, 6] (by decide) rfl
            have hFc := va_free (wc := [(h0, .inr (7, [.ref h1, .ref h2, .ref h3, .ref h4, .ref h5, .ref h6, .int a0, .int a1, .int a2, .int a3, .int a4, .int a5, .int a6, .int p0])), (h1, .inl (cI, 9, .inl g0)), (h2, .inl (cI, 9, .inl g1)), (h3, .inl (cI, 9, .inl g2)), (h4, .inl (cI, 81, .inl g3)), (h5, .inl (cI, 81, .inl g4)), (h6, .inl (cI, 4608, .inl f_40))]) hD hS hA [0, 1, 2, 3, 4, 5, 6] rfl
            refine va_callv (va_runV (As := [.int x_39]) (rest := []) ⟨hx, hb, hml, hown, hts⟩ (c_s_X7_fillRow l dC dI cB cI cJ cZ cP h0 h1 g0 hg0 h2 g1 hg1 h3 g2 hg2 h4 g3 h5 g4 h6 f_40 a0 (rg_mono ha0 (by decide) (by decide)) a1 (rg_mono h_4 (by decide) (by decide)) a2 (rg_mono ha2 (by decide) (by decide)) a3 a4 a5 (rg_mono ha5 (by decide) (by decide)) a6 p0 (rg_mono hp0 (by decide) (by decide)) x_39 (rg_mono h_79 (by decide) (by decide)) H.size) (cwV 1 hts (gd_V (List.mem_of_getElem? (i := 19) rfl) (List.mem_of_getElem? (i := 20) rfl) (List.mem_of_getElem? (i := 21) rfl) (List.mem_of_getElem? (i := 5) rfl) (gd_mono k_s_X7_fillRow (fun _ h => List.mem_cons_of_mem _ (List.mem_append_right _ (List.mem_append_right _ (List.mem_append_right _ (List.mem_append_right _ (List.mem_append_left _ h)))))))) rfl rfl rfl (by decide +kernel) ⟨Nat.le_of_ble_eq_true rfl, Nat.le_of_ble_eq_true rfl⟩) ⟨fun a U g mk q => by obtain ⟨q0, q1, qP, qK, qD⟩ := q; exact ⟨q0, q1, qP, va_K.moved (u := U) (U := U.calling g mk a) (Vm.Alike.refl U.vm) qK, qD⟩, va_recv hK hPc (ci := 7) (q0 := 0) rfl rfl, fun U hU hW => ⟨rfl, by rw [hU], by rw [hU]; exact hPc, va_K.moved hW.alike hK, hDc.weaken (fun _ _ _ _ => trivial)⟩⟩ rfl rfl hl.1 rfl (lv_room (Nat.le_of_ble_eq_true rfl)) dX7_from_61 ⟨Nat.le_of_ble_eq_true rfl, Nat.le_of_ble_eq_true rfl⟩) hS (fun q _ h => hFc q h) hFc (fun u t H1 locs ht hvm hw hB hz1 hk1 hS => ?_)
            obtain ⟨f_94, hP1, hD1⟩ := hB
            rw [ht] at hP1
            obtain ⟨hP, hD⟩ := va_join (wr := []) (w1 := [(h0, .inr (7, [.ref h1, .ref h2, .ref h3, .ref h4, .ref h5, .ref h6, .int a0, .int a1, .int a2, .int a3, .int a4, .int a5, .int a6, .int p0])), (h1, .inl (cI, 9, .inl g0)), (h2, .inl (cI, 9, .inl g1)), (h3, .inl (cI, 9, .inl g2)), (h4, .inl (cI, 81, .inl g3)), (h5, .inl (cI, 81, .inl g4)), (h6, .inl (cI, 4608, .inl f_94))]) hP hD [0, 1, 2, 3, 4, 5, 6] [] rfl rfl (by decide) (by decide) hk1 hFc hP1 hD1
            generalize H1 = H at hP hS ⊢
            replace hP : va_P (dC, dI) vwCl [(h0, .inr (7, [.ref h1, .ref h2, .ref h3, .ref h4, .ref h5, .ref h6, .int a0, .int a1, .int a2, .int a3, .int a4, .int a5, .int a6, .int p0])), (h1, .inl (cI, 9, .inl g0)), (h2, .inl (cI, 9, .inl g1)), (h3, .inl (cI, 9, .inl g2)), (h4, .inl (cI, 81, .inl g3)), (h5, .inl (cI, 81, .inl g4)), (h6, .inl (cI, 4608, .inl f_94))] H := hP
            replace hD : va_D A [(h0, .inr (7, [.ref h1, .ref h2, .ref h3, .ref h4, .ref h5, .ref h6, .int a0, .int a1, .int a2, .int a3, .int a4, .int a5, .int a6, .int p0])), (h1, .inl (cI, 9, .inl g0)), (h2, .inl (cI, 9, .inl g1)), (h3, .inl (cI, 9, .inl g2)), (h4, .inl (cI, 81, .inl g3)), (h5, .inl (cI, 81, .inl g4)), (h6, .inl (cI, 4608, .inl f_94))] := hD
            obtain ⟨x_95, ex_95⟩ : ∃ y : Int32, y = x_39 + Int32.ofInt (-1) := ⟨_, rfl⟩
            have hx_95 : rg (0) (510) x_95 := by rw [ex_95]; exact rg_mono (rg_add h_79 (rg_k (x := Int32.ofInt (-1)) (c := -1) (by decide)) (by decide) (by decide)) (by decide) (by decide)
            have qx_95 : x_95.toInt = x_39.toInt + (-1) := by rw [ex_95]; exact rg_addE h_79 (rg_k (x := Int32.ofInt (-1)) (c := -1) (by decide)) (by decide) (by decide) (by decide)
            refine lv_iinc (v := x_95) (lv' := [(2, .int x_95), (0, .ref h0), (1, .int p0)]) hx hb dX7_from_64 hl (k := 0) rfl (ex_95.symm) (by decide) rfl (fun ls hl => ?_)
            clear ex_95
            refine lv_goto (tgt := 35) hx hb dX7_from_67 (by decide) ?_
            exact ih_68 (x_95, f_94) H locs ls ⟨hP.sub (ws' := [(h0, .inr (7, [.ref h1, .ref h2, .ref h3, .ref h4, .ref h5, .ref h6, .int a0, .int a1, .int a2, .int a3, .int a4, .int a5, .int a6, .int p0])), (h1, .inl (cI, 9, .inl g0)), (h2, .inl (cI, 9, .inl g1)), (h3, .inl (cI, 9, .inl g2)), (h4, .inl (cI, 81, .inl g3)), (h5, .inl (cI, 81, .inl g4)), (h6, .inl (cI, 4608, .inl f_94))]) [0, 1, 2, 3, 4, 5, 6] rfl, hD.sub (ws' := [(h0, .inr (7, [.ref h1, .ref h2, .ref h3, .ref h4, .ref h5, .ref h6, .int a0, .int a1, .int a2, .int a3, .int a4, .int a5, .int a6, .int p0])), (h1, .inl (cI, 9, .inl g0)), (h2, .inl (cI, 9, .inl g1)), (h3, .inl (cI, 9, .inl g2)), (h4, .inl (cI, 81, .inl g3)), (h5, .inl (cI, 81, .inl g4)), (h6, .inl (cI, 4608, .inl f_94))]) [0, 1, 2, 3, 4, 5, 6] (by decide) rfl, hS, lv_sub hl [0, 1, 2] rfl, (rg_mono hx_95 (by decide) (by decide))⟩ (by show (x_95.toInt - (0)).toNat < (x_39.toInt - (0)).toNat; have ha := h_79; simp only [rg] at ha; omega)
    · skip
      have h_96 : rg (0) (0) x_7 := by have ha := hx_7; have hb_ := (rg_k (x := 0) (c := 0) (by decide)); simp only [rg, fa_lt, fa_le, fa_eq, (by decide : (0 : Int32).toInt = 0)] at ha hb_ c_8; simp only [rg]; omega
      refine lv_aload_n hx hb dX7_from_20 rfl (lv_at hl 0 rfl) ?_
      have hPc := hP.sub (ws' := [(h0, .inr (7, [.ref h1, .ref h2, .ref h3, .ref h4, .ref h5, .ref h6, .int a0, .int a1, .int a2, .int a3, .int a4, .int a5, .int a6, .int a7]))]) [0] rfl
      have hDc := hD.sub (ws' := [(h0, .inr (7, [.ref h1, .ref h2, .ref h3, .ref h4, .ref h5, .ref h6, .int a0, .int a1, .int a2, .int a3, .int a4, .int a5, .int a6, .int a7]))]) [0] (by decide) rfl
      have hFc := va_free (wc := [(h0, .inr (7, [.ref h1, .ref h2, .ref h3, .ref h4, .ref h5, .ref h6, .int a0, .int a1, .int a2, .int a3, .int a4, .int a5, .int a6, .int a7]))]) hD hS hA [0] rfl
      refine va_calli (va_runV (As := []) (rest := []) ⟨hx, hb, hml, hown, hts⟩ (c_s_X7_nothing l dC dI cB cI cJ cZ cP h0 h1 h2 h3 h4 h5 h6 a0 a1 a2 a3 a4 a5 (rg_mono ha5 (by decide) (by decide)) a6 a7 H.size) (cwV 0 hts (gd_V (List.mem_of_getElem? (i := 2) rfl) (List.mem_of_getElem? (i := 3) rfl) (List.mem_of_getElem? (i := 4) rfl) (List.mem_of_getElem? (i := 5) rfl) (gd_mono k_s_X7_nothing (fun _ h => List.mem_cons_of_mem _ (List.mem_append_right _ (List.mem_append_right _ (List.mem_append_left _ h)))))) rfl rfl rfl (by decide +kernel) ⟨Nat.le_of_ble_eq_true rfl, Nat.le_of_ble_eq_true rfl⟩) ⟨fun a U g mk q => by obtain ⟨q0, q1, qP, qK, qD⟩ := q; exact ⟨q0, q1, qP, va_K.moved (u := U) (U := U.calling g mk a) (Vm.Alike.refl U.vm) qK, qD⟩, va_recv hK hPc (ci := 7) (q0 := 0) rfl rfl, fun U hU hW => ⟨rfl, by rw [hU], by rw [hU]; exact hPc, va_K.moved hW.alike hK, hDc.weaken (fun _ _ _ _ => trivial)⟩⟩ rfl rfl hl.1 rfl (lv_room (Nat.le_of_ble_eq_true rfl)) dX7_from_21 ⟨Nat.le_of_ble_eq_true rfl, Nat.le_of_ble_eq_true rfl⟩) hS (fun q _ h => hFc q h) hFc (fun r_97 u t H1 locs ht hvm hw hB hz1 hk1 hS => ?_)
      obtain ⟨hP1, hD1⟩ := hB
      rw [ht] at hP1
      obtain ⟨hP, hD⟩ := va_join (wr := [(h1, .inl (cI, 9, .inl g0)), (h2, .inl (cI, 9, .inl g1)), (h3, .inl (cI, 9, .inl g2)), (h4, .inl (cI, 81, .inl g3)), (h5, .inl (cI, 81, .inl g4)), (h6, .inl (cI, 4608, .inl g5))]) (w1 := [(h0, .inr (7, [.ref h1, .ref h2, .ref h3, .ref h4, .ref h5, .ref h6, .int a0, .int a1, .int a2, .int a3, .int a4, .int a5, .int a6, .int a7]))]) hP hD [0] [1, 2, 3, 4, 5, 6] rfl rfl (by decide) (by decide) hk1 hFc hP1 hD1
      generalize H1 = H at hP hS ⊢
      replace hP : va_P (dC, dI) vwCl [(h1, .inl (cI, 9, .inl g0)), (h2, .inl (cI, 9, .inl g1)), (h3, .inl (cI, 9, .inl g2)), (h4, .inl (cI, 81, .inl g3)), (h5, .inl (cI, 81, .inl g4)), (h6, .inl (cI, 4608, .inl g5)), (h0, .inr (7, [.ref h1, .ref h2, .ref h3, .ref h4, .ref h5, .ref h6, .int a0, .int a1, .int a2, .int a3, .int a4, .int a5, .int a6, .int a7]))] H := hP
      replace hD : va_D A [(h1, .inl (cI, 9, .inl g0)), (h2, .inl (cI, 9, .inl g1)), (h3, .inl (cI, 9, .inl g2)), (h4, .inl (cI, 81, .inl g3)), (h5, .inl (cI, 81, .inl g4)), (h6, .inl (cI, 4608, .inl g5)), (h0, .inr (7, [.ref h1, .ref h2, .ref h3, .ref h4, .ref h5, .ref h6, .int a0, .int a1, .int a2, .int a3, .int a4, .int a5, .int a6, .int a7]))] := hD
      have hr_97 : rg (-1) (1000000) r_97 := hw
      have hP9 := hP.sub (ws' := [(h0, .inr (7, [.ref h1, .ref h2, .ref h3, .ref h4, .ref h5, .ref h6, .int a0, .int a1, .int a2, .int a3, .int a4, .int a5, .int a6, .int a7])), (h1, .inl (cI, 9, .inl g0)), (h2, .inl (cI, 9, .inl g1)), (h3, .inl (cI, 9, .inl g2)), (h4, .inl (cI, 81, .inl g3)), (h5, .inl (cI, 81, .inl g4)), (h6, .inl (cI, 4608, .inl g5))]) [6, 0, 1, 2, 3, 4, 5] rfl
      have hD9 := hD.sub (ws' := [(h0, .inr (7, [.ref h1, .ref h2, .ref h3, .ref h4, .ref h5, .ref h6, .int a0, .int a1, .int a2, .int a3, .int a4, .int a5, .int a6, .int a7])), (h1, .inl (cI, 9, .inl g0)), (h2, .inl (cI, 9, .inl g1)), (h3, .inl (cI, 9, .inl g2)), (h4, .inl (cI, 81, .inl g3)), (h5, .inl (cI, 81, .inl g4)), (h6, .inl (cI, 4608, .inl g5))]) [6, 0, 1, 2, 3, 4, 5] (by decide) rfl
      exact W.iret (v := r_97) hx hb hr (fun t ht hW => ⟨⟨r_97, (), rfl, trivial, ⟨a7, g5, (rg_mono ha7 (by decide) (by decide)), by rw [ht]; exact hP9, hD9⟩⟩, hS.F ht⟩) hS.2.2 dX7_from_24
def v_s_X7_alwaysBeside : List Cond := Cond.code yX7_alwaysBeside cX7_alwaysBeside 4 (some .int) :: ([Cond.fieldLink RX7 47 "MayRings$Ways" "sort" "I", Cond.fieldLink RX7 50 "MayRings$Ways" "watched" "I", Cond.fieldLink RX7 44 "MayRings$Ways" "never" "Z", Cond.methodLink RX7 68 yX7_from, Cond.instanceMethod yX7_from, Cond.selects RX7 yX7_from yX7_from, Cond.initialized RX7] ++ (wsX70 ++ (v_s_X7_from ++ ([]))))
theorem k_s_X7_alwaysBeside : GoodIn lw_tbl v_s_X7_alwaysBeside := gd_c (List.mem_of_getElem? (i := 1194) (by decide +kernel)) rfl (goodIn_app (gd_c (List.mem_of_getElem? (i := 462) (by decide +kernel)) rfl (gd_c (List.mem_of_getElem? (i := 463) (by decide +kernel)) rfl (gd_c (List.mem_of_getElem? (i := 461) (by decide +kernel)) rfl (gd_c (List.mem_of_getElem? (i := 933) (by decide +kernel)) rfl (gd_c (List.mem_of_getElem? (i := 935) (by decide +kernel)) rfl (gd_c (List.mem_of_getElem? (i := 39) (by decide +kernel)) rfl (gd_c (List.mem_of_getElem? (i := 142) (by decide +kernel)) rfl (gd_nil)))))))) (goodIn_app kfX7 (goodIn_app k_s_X7_from (gd_nil))))
set_option maxHeartbeats 2000000 in
set_option maxRecDepth 100000 in
theorem c_s_X7_alwaysBeside (l : Launch) (dC : Nat → ClassId) (dI : Nat → Nat → Nat) (cB cI cJ cZ cP : ClassId) (h0 : Nat) (h1 : Nat) (g0 : Nat → Int32) (hg0 : rgA (0) (511) g0) (h2 : Nat) (g1 : Nat → Int32) (hg1 : rgA (0) (511) g1) (h3 : Nat) (g2 : Nat → Int32) (hg2 : rgA (0) (511) g2) (h4 : Nat) (g3 : Nat → Int32) (h5 : Nat) (g4 : Nat → Int32) (h6 : Nat) (g5 : Nat → Int32) (a0 : Int32) (ha0 : rg (0) (511) a0) (a1 : Int32) (ha1 : rg (0) (9) a1) (a2 : Int32) (ha2 : rg (0) (1) a2) (a3 : Int32) (a4 : Int32) (ha4 : rg (0) (1) a4) (a5 : Int32) (a6 : Int32) (a7 : Int32) (ha7 : rg (0) (8) a7) (p0 : Int32) (sz : Nat) : Met l yX7_alwaysBeside v_s_X7_alwaysBeside ({ frames := 5, cells := 0, slots := 0, locals := 118 }) (va_Pc [.ref h0, .int p0] (fun U => U.heap.size = sz ∧ va_P (dC, dI) vwCl [(h0, .inr (7, [.ref h1, .ref h2, .ref h3, .ref h4, .ref h5, .ref h6, .int a0, .int a1, .int a2, .int a3, .int a4, .int a5, .int a6, .int a7])), (h1, .inl (cI, 9, .inl g0)), (h2, .inl (cI, 9, .inl g1)), (h3, .inl (cI, 9, .inl g2)), (h4, .inl (cI, 81, .inl g3)), (h5, .inl (cI, 81, .inl g4)), (h6, .inl (cI, 4608, .inl g5))] U.heap ∧ va_K (dC, dI) vwCl (ty5 cB cI cJ cZ cP) U ∧ va_D (fun _ => True) [(h0, .inr (7, [.ref h1, .ref h2, .ref h3, .ref h4, .ref h5, .ref h6, .int a0, .int a1, .int a2, .int a3, .int a4, .int a5, .int a6, .int a7])), (h1, .inl (cI, 9, .inl g0)), (h2, .inl (cI, 9, .inl g1)), (h3, .inl (cI, 9, .inl g2)), (h4, .inl (cI, 81, .inl g3)), (h5, .inl (cI, 81, .inl g4)), (h6, .inl (cI, 4608, .inl g5))])) (va_Qi (fun (r : Int32) (u9 : Unit) => True) (fun u9 t => ∃ (z0 : Int32) (z1 : Nat → Int32), rg (0) (8) z0 ∧ va_P (dC, dI) vwCl [(h0, .inr (7, [.ref h1, .ref h2, .ref h3, .ref h4, .ref h5, .ref h6, .int a0, .int a1, .int a2, .int a3, .int a4, .int 2, .int p0, .int z0])), (h1, .inl (cI, 9, .inl g0)), (h2, .inl (cI, 9, .inl g1)), (h3, .inl (cI, 9, .inl g2)), (h4, .inl (cI, 81, .inl g3)), (h5, .inl (cI, 81, .inl g4)), (h6, .inl (cI, 4608, .inl z1))] t.heap ∧ va_D (va_A [(h0, .inr (7, [.ref h1, .ref h2, .ref h3, .ref h4, .ref h5, .ref h6, .int a0, .int a1, .int a2, .int a3, .int a4, .int a5, .int a6, .int a7])), (h1, .inl (cI, 9, .inl g0)), (h2, .inl (cI, 9, .inl g1)), (h3, .inl (cI, 9, .inl g2)), (h4, .inl (cI, 81, .inl g3)), (h5, .inl (cI, 81, .inl g4)), (h6, .inl (cI, 4608, .inl g5))] sz) [(h0, .inr (7, [.ref h1, .ref h2, .ref h3, .ref h4, .ref h5, .ref h6, .int a0, .int a1, .int a2, .int a3, .int a4, .int 2, .int p0, .int z0])), (h1, .inl (cI, 9, .inl g0)), (h2, .inl (cI, 9, .inl g1)), (h3, .inl (cI, 9, .inl g2)), (h4, .inl (cI, 81, .inl g3)), (h5, .inl (cI, 81, .inl g4)), (h6, .inl (cI, 4608, .inl z1))]) (va_A [(h0, .inr (7, [.ref h1, .ref h2, .ref h3, .ref h4, .ref h5, .ref h6, .int a0, .int a1, .int a2, .int a3, .int a4, .int a5, .int a6, .int a7])), (h1, .inl (cI, 9, .inl g0)), (h2, .inl (cI, 9, .inl g1)), (h3, .inl (cI, 9, .inl g2)), (h4, .inl (cI, 81, .inl g3)), (h5, .inl (cI, 81, .inl g4)), (h6, .inl (cI, 4608, .inl g5))] sz)) 0 0 (va_A [(h0, .inr (7, [.ref h1, .ref h2, .ref h3, .ref h4, .ref h5, .ref h6, .int a0, .int a1, .int a2, .int a3, .int a4, .int a5, .int a6, .int a7])), (h1, .inl (cI, 9, .inl g0)), (h2, .inl (cI, 9, .inl g1)), (h3, .inl (cI, 9, .inl g2)), (h4, .inl (cI, 81, .inl g3)), (h5, .inl (cI, 81, .inl g4)), (h6, .inl (cI, 4608, .inl g5))] sz) := by
  refine Met.ofW (cc := cX7_alwaysBeside) (maxL := 4) (ret := (some .int)) (by decide) rfl ?_
  intro p e s m args below meth c s₁ B hml hv
  obtain ⟨rfl, hsz, hP, hK, hD0⟩ := hv
  have hx := B.exec
  have hb := B.bytes
  have hr := B.returns
  have hts := atoms_spec (ws := v_s_X7_alwaysBeside) B.pre
  have hown : s.vm.findClass RX7 = some m.cls := findClass_of_methodNamed B.named
  have hlocks := B.notSynchronized
  have hinX7 : ∀ w ∈ wsX70, w ∈ v_s_X7_alwaysBeside := fun _ h => List.mem_cons_of_mem _ (List.mem_append_right _ (List.mem_append_left _ h))
  subst hsz
  have hD := hD0.self (sz := s.heap.size)
  generalize hAe : va_A [(h0, .inr (7, [.ref h1, .ref h2, .ref h3, .ref h4, .ref h5, .ref h6, .int a0, .int a1, .int a2, .int a3, .int a4, .int a5, .int a6, .int a7])), (h1, .inl (cI, 9, .inl g0)), (h2, .inl (cI, 9, .inl g1)), (h3, .inl (cI, 9, .inl g2)), (h4, .inl (cI, 81, .inl g3)), (h5, .inl (cI, 81, .inl g4)), (h6, .inl (cI, 4608, .inl g5))] s.heap.size = A at hD ⊢
  have hA : ∀ q : Nat, s.heap.size ≤ q → A q := fun q h => by rw [← hAe]; exact Or.inr h
  have hP : va_P (dC, dI) vwCl [(h0, .inr (7, [.ref h1, .ref h2, .ref h3, .ref h4, .ref h5, .ref h6, .int a0, .int a1, .int a2, .int a3, .int a4, .int a5, .int a6, .int a7])), (h1, .inl (cI, 9, .inl g0)), (h2, .inl (cI, 9, .inl g1)), (h3, .inl (cI, 9, .inl g2)), (h4, .inl (cI, 81, .inl g3)), (h5, .inl (cI, 81, .inl g4)), (h6, .inl (cI, 4608, .inl g5))] s.heap := hP
  have hl := lv_entry ([.ref h0, .int p0]) (n := 4) (Nat.le_of_ble_eq_true rfl)
  rw [lg_entry_eq]
  generalize (lg_sl ([.ref h0, .int p0]) ++ List.replicate (4 - (lg_sl ([.ref h0, .int p0])).length) Slot.unset).toArray = ls at hl ⊢
  have hl : lv_has ls 4 [(0, .ref h0), (1, .int p0)] := hl
  refine W_gen (A := A) hP (fun H locs hP hS => ?_)
  refine lv_aload_n hx hb dX7_alwaysBeside_0 rfl (lv_at hl 0 rfl) ?_
  refine lv_iconst (v := 2) hx hb dX7_alwaysBeside_1 (by decide) ?_
  refine va_put (D := (dC, dI)) (ci := 7) (v := .int 2) (ty := .int) (C := RX7) (T := TX7) (N := 14) hx hb hts hinX7 tyX7 tyX7_ok nmX7 hown hK hP hD hS 0 rfl rfl 11 (by decide) (hts (.fieldLink RX7 47 "MayRings$Ways" "sort" "I") (List.mem_of_getElem? (i := 1) rfl)) (fun _ h9 => h9) rfl (by decide +kernel) (rfl) (rfl) (Nat.le_of_ble_eq_true rfl) dX7_alwaysBeside_2 (fun H locs hP hD hS => ?_)
  replace hP : va_P (dC, dI) vwCl [(h0, .inr (7, [.ref h1, .ref h2, .ref h3, .ref h4, .ref h5, .ref h6, .int a0, .int a1, .int a2, .int a3, .int a4, .int 2, .int a6, .int a7])), (h1, .inl (cI, 9, .inl g0)), (h2, .inl (cI, 9, .inl g1)), (h3, .inl (cI, 9, .inl g2)), (h4, .inl (cI, 81, .inl g3)), (h5, .inl (cI, 81, .inl g4)), (h6, .inl (cI, 4608, .inl g5))] H := hP
  replace hD : va_D A [(h0, .inr (7, [.ref h1, .ref h2, .ref h3, .ref h4, .ref h5, .ref h6, .int a0, .int a1, .int a2, .int a3, .int a4, .int 2, .int a6, .int a7])), (h1, .inl (cI, 9, .inl g0)), (h2, .inl (cI, 9, .inl g1)), (h3, .inl (cI, 9, .inl g2)), (h4, .inl (cI, 81, .inl g3)), (h5, .inl (cI, 81, .inl g4)), (h6, .inl (cI, 4608, .inl g5))] := hD
  refine lv_aload_n hx hb dX7_alwaysBeside_5 rfl (lv_at hl 0 rfl) ?_
  refine lv_iload_n hx hb dX7_alwaysBeside_6 rfl (lv_at hl 1 rfl) ?_
  refine va_put (D := (dC, dI)) (ci := 7) (v := .int p0) (ty := .int) (C := RX7) (T := TX7) (N := 14) hx hb hts hinX7 tyX7 tyX7_ok nmX7 hown hK hP hD hS 0 rfl rfl 12 (by decide) (hts (.fieldLink RX7 50 "MayRings$Ways" "watched" "I") (List.mem_of_getElem? (i := 2) rfl)) (fun _ h9 => h9) rfl (by decide +kernel) (rfl) (rfl) (Nat.le_of_ble_eq_true rfl) dX7_alwaysBeside_7 (fun H locs hP hD hS => ?_)
  replace hP : va_P (dC, dI) vwCl [(h0, .inr (7, [.ref h1, .ref h2, .ref h3, .ref h4, .ref h5, .ref h6, .int a0, .int a1, .int a2, .int a3, .int a4, .int 2, .int p0, .int a7])), (h1, .inl (cI, 9, .inl g0)), (h2, .inl (cI, 9, .inl g1)), (h3, .inl (cI, 9, .inl g2)), (h4, .inl (cI, 81, .inl g3)), (h5, .inl (cI, 81, .inl g4)), (h6, .inl (cI, 4608, .inl g5))] H := hP
  replace hD : va_D A [(h0, .inr (7, [.ref h1, .ref h2, .ref h3, .ref h4, .ref h5, .ref h6, .int a0, .int a1, .int a2, .int a3, .int a4, .int 2, .int p0, .int a7])), (h1, .inl (cI, 9, .inl g0)), (h2, .inl (cI, 9, .inl g1)), (h3, .inl (cI, 9, .inl g2)), (h4, .inl (cI, 81, .inl g3)), (h5, .inl (cI, 81, .inl g4)), (h6, .inl (cI, 4608, .inl g5))] := hD
  refine lv_iconst (v := (-1)) hx hb dX7_alwaysBeside_10 (by decide) ?_
  refine lv_istore_n (lv' := [(2, .int (-1)), (0, .ref h0), (1, .int p0)]) hx hb dX7_alwaysBeside_11 rfl hl (by decide) rfl (fun ls hl => ?_)
  refine lv_iconst (v := 0) hx hb dX7_alwaysBeside_12 (by decide) ?_
  refine lv_istore_n (lv' := [(3, .int 0), (2, .int (-1)), (0, .ref h0), (1, .int p0)]) hx hb dX7_alwaysBeside_13 rfl hl (by decide) rfl (fun ls hl => ?_)
  refine W_loopM (σ := (Nat → Int32) × Int32 × Int32 × Int32) (fun u H locs ls => va_P (dC, dI) vwCl [(h0, .inr (7, [.ref h1, .ref h2, .ref h3, .ref h4, .ref h5, .ref h6, .int a0, .int a1, .int a2, .int a3, .int a4, .int 2, .int p0, .int u.2.2.2])), (h1, .inl (cI, 9, .inl g0)), (h2, .inl (cI, 9, .inl g1)), (h3, .inl (cI, 9, .inl g2)), (h4, .inl (cI, 81, .inl g3)), (h5, .inl (cI, 81, .inl g4)), (h6, .inl (cI, 4608, .inl u.1))] H ∧ va_D A [(h0, .inr (7, [.ref h1, .ref h2, .ref h3, .ref h4, .ref h5, .ref h6, .int a0, .int a1, .int a2, .int a3, .int a4, .int 2, .int p0, .int u.2.2.2])), (h1, .inl (cI, 9, .inl g0)), (h2, .inl (cI, 9, .inl g1)), (h3, .inl (cI, 9, .inl g2)), (h4, .inl (cI, 81, .inl g3)), (h5, .inl (cI, 81, .inl g4)), (h6, .inl (cI, 4608, .inl u.1))] ∧ va_S A s.heap H locs ∧ lv_has ls 4 [(3, .int u.2.1), (2, .int u.2.2.1), (0, .ref h0), (1, .int p0)] ∧ rg (0) (9) u.2.1 ∧ rg (0) (8) u.2.2.2) (fun u => ((9) - u.2.1.toInt).toNat) 14 [] ?_ (g5, 0, (-1), a7) H locs ls ⟨hP, hD, hS, hl, (rg_mono (rg_k (x := 0) (c := 0) (by decide)) (by decide) (by decide)), (rg_mono ha7 (by decide) (by decide))⟩
  rintro ⟨f_112, x_113, x_114, x_115⟩ H locs ls ⟨hP, hD, hS, hl, hx_113, hx_115⟩ ih_127
  replace hP : va_P (dC, dI) vwCl [(h0, .inr (7, [.ref h1, .ref h2, .ref h3, .ref h4, .ref h5, .ref h6, .int a0, .int a1, .int a2, .int a3, .int a4, .int 2, .int p0, .int x_115])), (h1, .inl (cI, 9, .inl g0)), (h2, .inl (cI, 9, .inl g1)), (h3, .inl (cI, 9, .inl g2)), (h4, .inl (cI, 81, .inl g3)), (h5, .inl (cI, 81, .inl g4)), (h6, .inl (cI, 4608, .inl f_112))] H := hP
  replace hD : va_D A [(h0, .inr (7, [.ref h1, .ref h2, .ref h3, .ref h4, .ref h5, .ref h6, .int a0, .int a1, .int a2, .int a3, .int a4, .int 2, .int p0, .int x_115])), (h1, .inl (cI, 9, .inl g0)), (h2, .inl (cI, 9, .inl g1)), (h3, .inl (cI, 9, .inl g2)), (h4, .inl (cI, 81, .inl g3)), (h5, .inl (cI, 81, .inl g4)), (h6, .inl (cI, 4608, .inl f_112))] := hD
  replace hl : lv_has ls 4 [(3, .int x_113), (2, .int x_114), (0, .ref h0), (1, .int p0)] := hl
  replace hx_113 : rg (0) (9) x_113 := hx_113
  replace hx_115 : rg (0) (8) x_115 := hx_115
  refine lv_iload_n hx hb dX7_alwaysBeside_14 rfl (lv_at hl 0 rfl) ?_
  refine lv_bipush (v := 9) hx hb dX7_alwaysBeside_15 (by decide) ?_
  refine lv_icmp_ge (tgt := 41) hx hb dX7_alwaysBeside_17 (by decide) (fun c_128 => ?_) (fun c_128 => ?_)
  · skip
    have h_129 : rg (9) (9) x_113 := by have ha := hx_113; have hb_ := (rg_k (x := 9) (c := 9) (by decide)); simp only [rg, fa_lt, fa_le, fa_eq, (by decide : (9 : Int32).toInt = 9)] at ha hb_ c_128; simp only [rg]; omega
    refine lv_iload_n hx hb dX7_alwaysBeside_41 rfl (lv_at hl 1 rfl) ?_
    have hP9 := hP.sub (ws' := [(h0, .inr (7, [.ref h1, .ref h2, .ref h3, .ref h4, .ref h5, .ref h6, .int a0, .int a1, .int a2, .int a3, .int a4, .int 2, .int p0, .int x_115])), (h1, .inl (cI, 9, .inl g0)), (h2, .inl (cI, 9, .inl g1)), (h3, .inl (cI, 9, .inl g2)), (h4, .inl (cI, 81, .inl g3)), (h5, .inl (cI, 81, .inl g4)), (h6, .inl (cI, 4608, .inl f_112))]) [0, 1, 2, 3, 4, 5, 6] rfl
    have hD9 := hD.sub (ws' := [(h0, .inr (7, [.ref h1, .ref h2, .ref h3, .ref h4, .ref h5, .ref h6, .int a0, .int a1, .int a2, .int a3, .int a4, .int 2, .int p0, .int x_115])), (h1, .inl (cI, 9, .inl g0)), (h2, .inl (cI, 9, .inl g1)), (h3, .inl (cI, 9, .inl g2)), (h4, .inl (cI, 81, .inl g3)), (h5, .inl (cI, 81, .inl g4)), (h6, .inl (cI, 4608, .inl f_112))]) [0, 1, 2, 3, 4, 5, 6] (by decide) rfl
    exact W.iret (v := x_114) hx hb hr (fun t ht hW => ⟨⟨x_114, (), rfl, trivial, ⟨x_115, f_112, (rg_mono hx_115 (by decide) (by decide)), by rw [ht]; exact hP9, hD9⟩⟩, hS.F ht⟩) hS.2.2 dX7_alwaysBeside_42
  · skip
    have h_130 : rg (0) (8) x_113 := by have ha := hx_113; have hb_ := (rg_k (x := 9) (c := 9) (by decide)); simp only [rg, fa_lt, fa_le, fa_eq, (by decide : (9 : Int32).toInt = 9)] at ha hb_ c_128; simp only [rg]; omega
    refine lv_aload_n hx hb dX7_alwaysBeside_20 rfl (lv_at hl 2 rfl) ?_
    refine va_get (D := (dC, dI)) (ci := 7) (v := .int a4) (C := RX7) (T := TX7) (N := 14) hx hb hts hinX7 hown hK hP 0 rfl rfl 10 (by decide) (hts (.fieldLink RX7 44 "MayRings$Ways" "never" "Z") (List.mem_of_getElem? (i := 3) rfl)) (fun _ h9 => h9) rfl dX7_alwaysBeside_21 ?_
    refine lv_if_ne (tgt := 41) hx hb dX7_alwaysBeside_24 (by decide) (fun c_131 => ?_) (fun c_131 => ?_)
    · skip
      have h_132 : rg (1) (1) a4 := by have ha := ha4; have hb_ := (rg_k (x := 0) (c := 0) (by decide)); simp only [rg, fa_lt, fa_le, fa_eq, (by decide : (0 : Int32).toInt = 0)] at ha hb_ c_131; simp only [rg]; omega
      refine lv_iload_n hx hb dX7_alwaysBeside_41 rfl (lv_at hl 1 rfl) ?_
      have hP9 := hP.sub (ws' := [(h0, .inr (7, [.ref h1, .ref h2, .ref h3, .ref h4, .ref h5, .ref h6, .int a0, .int a1, .int a2, .int a3, .int a4, .int 2, .int p0, .int x_115])), (h1, .inl (cI, 9, .inl g0)), (h2, .inl (cI, 9, .inl g1)), (h3, .inl (cI, 9, .inl g2)), (h4, .inl (cI, 81, .inl g3)), (h5, .inl (cI, 81, .inl g4)), (h6, .inl (cI, 4608, .inl f_112))]) [0, 1, 2, 3, 4, 5, 6] rfl
      have hD9 := hD.sub (ws' := [(h0, .inr (7, [.ref h1, .ref h2, .ref h3, .ref h4, .ref h5, .ref h6, .int a0, .int a1, .int a2, .int a3, .int a4, .int 2, .int p0, .int x_115])), (h1, .inl (cI, 9, .inl g0)), (h2, .inl (cI, 9, .inl g1)), (h3, .inl (cI, 9, .inl g2)), (h4, .inl (cI, 81, .inl g3)), (h5, .inl (cI, 81, .inl g4)), (h6, .inl (cI, 4608, .inl f_112))]) [0, 1, 2, 3, 4, 5, 6] (by decide) rfl
      exact W.iret (v := x_114) hx hb hr (fun t ht hW => ⟨⟨x_114, (), rfl, trivial, ⟨x_115, f_112, (rg_mono hx_115 (by decide) (by decide)), by rw [ht]; exact hP9, hD9⟩⟩, hS.F ht⟩) hS.2.2 dX7_alwaysBeside_42
    · skip
      have h_133 : rg (0) (0) a4 := by have ha := ha4; have hb_ := (rg_k (x := 0) (c := 0) (by decide)); simp only [rg, fa_lt, fa_le, fa_eq, (by decide : (0 : Int32).toInt = 0)] at ha hb_ c_131; simp only [rg]; omega
      refine lv_iload_n hx hb dX7_alwaysBeside_27 rfl (lv_at hl 1 rfl) ?_
      refine lv_aload_n hx hb dX7_alwaysBeside_28 rfl (lv_at hl 2 rfl) ?_
      refine lv_iload_n hx hb dX7_alwaysBeside_29 rfl (lv_at hl 0 rfl) ?_
      have hPc := hP.sub (ws' := [(h0, .inr (7, [.ref h1, .ref h2, .ref h3, .ref h4, .ref h5, .ref h6, .int a0, .int a1, .int a2, .int a3, .int a4, .int 2, .int p0, .int x_115])), (h1, .inl (cI, 9, .inl g0)), (h2, .inl (cI, 9, .inl g1)), (h3, .inl (cI, 9, .inl g2)), (h4, .inl (cI, 81, .inl g3)), (h5, .inl (cI, 81, .inl g4)), (h6, .inl (cI, 4608, .inl f_112))]) [0, 1, 2, 3, 4, 5, 6] rfl
      have hDc := hD.sub (ws' := [(h0, .inr (7, [.ref h1, .ref h2, .ref h3, .ref h4, .ref h5, .ref h6, .int a0, .int a1, .int a2, .int a3, .int a4, .int 2, .int p0, .int x_115])), (h1, .inl (cI, 9, .inl g0)), (h2, .inl (cI, 9, .inl g1)), (h3, .inl (cI, 9, .inl g2)), (h4, .inl (cI, 81, .inl g3)), (h5, .inl (cI, 81, .inl g4)), (h6, .inl (cI, 4608, .inl f_112))]) [0, 1, 2, 3, 4, 5, 6] (by decide) rfl
      have hFc := va_free (wc := [(h0, .inr (7, [.ref h1, .ref h2, .ref h3, .ref h4, .ref h5, .ref h6, .int a0, .int a1, .int a2, .int a3, .int a4, .int 2, .int p0, .int x_115])), (h1, .inl (cI, 9, .inl g0)), (h2, .inl (cI, 9, .inl g1)), (h3, .inl (cI, 9, .inl g2)), (h4, .inl (cI, 81, .inl g3)), (h5, .inl (cI, 81, .inl g4)), (h6, .inl (cI, 4608, .inl f_112))]) hD hS hA [0, 1, 2, 3, 4, 5, 6] rfl
      refine va_calli (va_runV (As := [.int x_113]) (rest := [.int x_114]) ⟨hx, hb, hml, hown, hts⟩ (c_s_X7_from l dC dI cB cI cJ cZ cP h0 h1 g0 hg0 h2 g1 hg1 h3 g2 hg2 h4 g3 h5 g4 h6 f_112 a0 (rg_mono ha0 (by decide) (by decide)) a1 (rg_mono ha1 (by decide) (by decide)) a2 (rg_mono ha2 (by decide) (by decide)) a3 a4 2 (rg_mono (rg_k (x := 2) (c := 2) (by decide)) (by decide) (by decide)) p0 x_115 (rg_mono hx_115 (by decide) (by decide)) x_113 (rg_mono h_130 (by decide) (by decide)) H.size) (cwV 1 hts (gd_V (List.mem_of_getElem? (i := 4) rfl) (List.mem_of_getElem? (i := 5) rfl) (List.mem_of_getElem? (i := 6) rfl) (List.mem_of_getElem? (i := 7) rfl) (gd_mono k_s_X7_from (fun _ h => List.mem_cons_of_mem _ (List.mem_append_right _ (List.mem_append_right _ (List.mem_append_left _ h)))))) rfl rfl rfl (by decide +kernel) ⟨Nat.le_of_ble_eq_true rfl, Nat.le_of_ble_eq_true rfl⟩) ⟨fun a U g mk q => by obtain ⟨q0, q1, qP, qK, qD⟩ := q; exact ⟨q0, q1, qP, va_K.moved (u := U) (U := U.calling g mk a) (Vm.Alike.refl U.vm) qK, qD⟩, va_recv hK hPc (ci := 7) (q0 := 0) rfl rfl, fun U hU hW => ⟨rfl, by rw [hU], by rw [hU]; exact hPc, va_K.moved hW.alike hK, hDc.weaken (fun _ _ _ _ => trivial)⟩⟩ rfl rfl hl.1 rfl (lv_room (Nat.le_of_ble_eq_true rfl)) dX7_alwaysBeside_30 ⟨Nat.le_of_ble_eq_true rfl, Nat.le_of_ble_eq_true rfl⟩) hS (fun q _ h => hFc q h) hFc (fun r_134 u t H1 locs ht hvm hw hB hz1 hk1 hS => ?_)
      obtain ⟨x_135, f_136, hx_135, hP1, hD1⟩ := hB
      rw [ht] at hP1
      obtain ⟨hP, hD⟩ := va_join (wr := []) (w1 := [(h0, .inr (7, [.ref h1, .ref h2, .ref h3, .ref h4, .ref h5, .ref h6, .int a0, .int a1, .int a2, .int a3, .int a4, .int 2, .int p0, .int x_135])), (h1, .inl (cI, 9, .inl g0)), (h2, .inl (cI, 9, .inl g1)), (h3, .inl (cI, 9, .inl g2)), (h4, .inl (cI, 81, .inl g3)), (h5, .inl (cI, 81, .inl g4)), (h6, .inl (cI, 4608, .inl f_136))]) hP hD [0, 1, 2, 3, 4, 5, 6] [] rfl rfl (by decide) (by decide) hk1 hFc hP1 hD1
      generalize H1 = H at hP hS ⊢
      replace hP : va_P (dC, dI) vwCl [(h0, .inr (7, [.ref h1, .ref h2, .ref h3, .ref h4, .ref h5, .ref h6, .int a0, .int a1, .int a2, .int a3, .int a4, .int 2, .int p0, .int x_135])), (h1, .inl (cI, 9, .inl g0)), (h2, .inl (cI, 9, .inl g1)), (h3, .inl (cI, 9, .inl g2)), (h4, .inl (cI, 81, .inl g3)), (h5, .inl (cI, 81, .inl g4)), (h6, .inl (cI, 4608, .inl f_136))] H := hP
      replace hD : va_D A [(h0, .inr (7, [.ref h1, .ref h2, .ref h3, .ref h4, .ref h5, .ref h6, .int a0, .int a1, .int a2, .int a3, .int a4, .int 2, .int p0, .int x_135])), (h1, .inl (cI, 9, .inl g0)), (h2, .inl (cI, 9, .inl g1)), (h3, .inl (cI, 9, .inl g2)), (h4, .inl (cI, 81, .inl g3)), (h5, .inl (cI, 81, .inl g4)), (h6, .inl (cI, 4608, .inl f_136))] := hD
      refine lv_iand hx hb dX7_alwaysBeside_33 ?_
      refine lv_topi (fun x_137 ex_137 => ?_)
      refine lv_istore_n (lv' := [(2, .int x_137), (3, .int x_113), (0, .ref h0), (1, .int p0)]) hx hb dX7_alwaysBeside_34 rfl hl (by decide) rfl (fun ls hl => ?_)
      obtain ⟨x_138, ex_138⟩ : ∃ y : Int32, y = x_113 + Int32.ofInt (1) := ⟨_, rfl⟩
      have hx_138 : rg (1) (9) x_138 := by rw [ex_138]; exact rg_mono (rg_add h_130 (rg_k (x := Int32.ofInt (1)) (c := 1) (by decide)) (by decide) (by decide)) (by decide) (by decide)
      have qx_138 : x_138.toInt = x_113.toInt + (1) := by rw [ex_138]; exact rg_addE h_130 (rg_k (x := Int32.ofInt (1)) (c := 1) (by decide)) (by decide) (by decide) (by decide)
      refine lv_iinc (v := x_138) (lv' := [(3, .int x_138), (2, .int x_137), (0, .ref h0), (1, .int p0)]) hx hb dX7_alwaysBeside_35 hl (k := 1) rfl (ex_138.symm) (by decide) rfl (fun ls hl => ?_)
      clear ex_138
      refine lv_goto (tgt := 14) hx hb dX7_alwaysBeside_38 (by decide) ?_
      exact ih_127 (f_136, x_138, x_137, x_135) H locs ls ⟨hP.sub (ws' := [(h0, .inr (7, [.ref h1, .ref h2, .ref h3, .ref h4, .ref h5, .ref h6, .int a0, .int a1, .int a2, .int a3, .int a4, .int 2, .int p0, .int x_135])), (h1, .inl (cI, 9, .inl g0)), (h2, .inl (cI, 9, .inl g1)), (h3, .inl (cI, 9, .inl g2)), (h4, .inl (cI, 81, .inl g3)), (h5, .inl (cI, 81, .inl g4)), (h6, .inl (cI, 4608, .inl f_136))]) [0, 1, 2, 3, 4, 5, 6] rfl, hD.sub (ws' := [(h0, .inr (7, [.ref h1, .ref h2, .ref h3, .ref h4, .ref h5, .ref h6, .int a0, .int a1, .int a2, .int a3, .int a4, .int 2, .int p0, .int x_135])), (h1, .inl (cI, 9, .inl g0)), (h2, .inl (cI, 9, .inl g1)), (h3, .inl (cI, 9, .inl g2)), (h4, .inl (cI, 81, .inl g3)), (h5, .inl (cI, 81, .inl g4)), (h6, .inl (cI, 4608, .inl f_136))]) [0, 1, 2, 3, 4, 5, 6] (by decide) rfl, hS, lv_sub hl [0, 1, 2, 3] rfl, (rg_mono hx_138 (by decide) (by decide)), (rg_mono hx_135 (by decide) (by decide))⟩ (by show ((9) - x_138.toInt).toNat < ((9) - x_113.toInt).toNat; have ha := h_130; simp only [rg] at ha; omega)
