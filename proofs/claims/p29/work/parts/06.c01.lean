def v_s_J6_bitCount_0f7a4_b9 : List Cond := Cond.code yJ6_bitCount_0f7a4 cJ6_bitCount_0f7a4 1 (some .int) :: ([Cond.constant RJ6 265 (1431655765), Cond.constant RJ6 266 (858993459), Cond.constant RJ6 267 (252645135)] ++ ([]))
theorem k_s_J6_bitCount_0f7a4_b9 : GoodIn lw_tbl v_s_J6_bitCount_0f7a4_b9 := gd_c (List.mem_of_getElem? (i := 879) (by decide +kernel)) rfl (goodIn_app (gd_c (List.mem_of_getElem? (i := 880) (by decide +kernel)) rfl (gd_c (List.mem_of_getElem? (i := 881) (by decide +kernel)) rfl (gd_c (List.mem_of_getElem? (i := 882) (by decide +kernel)) rfl (gd_nil)))) (gd_nil))
set_option maxHeartbeats 2000000 in
set_option maxRecDepth 100000 in
theorem c_s_J6_bitCount_0f7a4_b9 (l : Launch) (dC : Nat → ClassId) (dI : Nat → Nat → Nat) (cB cI cJ cZ cP : ClassId) (p0 : Int32) (hp0 : rg (0) (511) p0) (sz : Nat) : Met l yJ6_bitCount_0f7a4 v_s_J6_bitCount_0f7a4_b9 ({ frames := 0, cells := 0, slots := 0, locals := 0 }) (va_Pc [.int p0] (fun U => U.heap.size = sz ∧ va_P (dC, dI) vwCl [] U.heap ∧ va_K (dC, dI) vwCl (ty5 cB cI cJ cZ cP) U ∧ va_D (fun _ => True) [])) (va_Qi (fun (r : Int32) (u9 : Unit) => rg (0) (9) r ∧ (rg (0) (8) r → rg (0) (510) p0)) (fun u9 t => va_P (dC, dI) vwCl [] t.heap ∧ va_D (va_A [] sz) []) (va_A [] sz)) 0 0 (va_A [] sz) := by
  refine Met.ofW (cc := cJ6_bitCount_0f7a4) (maxL := 1) (ret := (some .int)) (by decide) rfl ?_
  intro p e s m args below meth c s₁ B hml hv
  obtain ⟨rfl, hsz, hP, hK, hD0⟩ := hv
  have hx := B.exec
  have hb := B.bytes
  have hr := B.returns
  have hts := atoms_spec (ws := v_s_J6_bitCount_0f7a4_b9) B.pre
  have hown : s.vm.findClass RJ6 = some m.cls := findClass_of_methodNamed B.named
  have hlocks := B.notSynchronized
  subst hsz
  have hD := hD0.self (sz := s.heap.size)
  generalize hAe : va_A [] s.heap.size = A at hD ⊢
  have hA : ∀ q : Nat, s.heap.size ≤ q → A q := fun q h => by rw [← hAe]; exact Or.inr h
  have hP : va_P (dC, dI) vwCl [] s.heap := hP
  have hl := lv_entry ([.int p0]) (n := 1) (Nat.le_of_ble_eq_true rfl)
  rw [lg_entry_eq]
  generalize (lg_sl ([.int p0]) ++ List.replicate (1 - (lg_sl ([.int p0])).length) Slot.unset).toArray = ls at hl ⊢
  have hl : lv_has ls 1 [(0, .int p0)] := hl
  refine W_gen (A := A) hP (fun H locs hP hS => ?_)
  refine lv_iload_n hx hb dJ6_bitCount_0f7a4_0 rfl (lv_at hl 0 rfl) ?_
  refine lv_iload_n hx hb dJ6_bitCount_0f7a4_1 rfl (lv_at hl 0 rfl) ?_
  refine lv_iconst (v := 1) hx hb dJ6_bitCount_0f7a4_2 (by decide) ?_
  refine lv_iushr hx hb dJ6_bitCount_0f7a4_3 rfl ?_
  refine lv_topi (fun x_1 ex_1 => ?_)
  have hx_1 : rg (0) (2147483647) x_1 := by rw [ex_1]; exact rg_mono (rg_ushr 1 (by decide) (by decide)) (by decide) (by decide)
  refine lv_ldcw (v := 1431655765) hx hb hown (hts (.constant RJ6 265 (1431655765)) (List.mem_of_getElem? (i := 1) rfl)) dJ6_bitCount_0f7a4_4 ?_
  refine lv_iand hx hb dJ6_bitCount_0f7a4_7 ?_
  refine lv_topi (fun x_2 ex_2 => ?_)
  have hx_2 : rg (0) (1431655765) x_2 := by rw [ex_2]; exact rg_mono (rg_andr (b := 1431655765) (rg_mono (rg_k (x := 1431655765) (c := 1431655765) (by decide)) (by decide) (by decide))) (by decide) (by decide)
  have kx_2_0 : rg 1 2147483647 x_2 → rg 1 (2147483647) x_1 := fun hq => rg_andP hx_1 (ex_2 ▸ hq)
  refine lv_isub hx hb dJ6_bitCount_0f7a4_8 ?_
  refine lv_topi (fun x_3 ex_3 => ?_)
  have hx_3 : rg (-1431655765) (511) x_3 := by rw [ex_3]; exact rg_mono (rg_sub hp0 hx_2 (by decide) (by decide)) (by decide) (by decide)
  have qx_3 : x_3.toInt = p0.toInt - x_2.toInt := by rw [ex_3]; exact rg_subQ hp0 hx_2 (by decide) (by decide)
  refine lv_istore_n (lv' := [(0, .int x_3)]) hx hb dJ6_bitCount_0f7a4_9 rfl hl (by decide) rfl (fun ls hl => ?_)
  refine lv_iload_n hx hb dJ6_bitCount_0f7a4_10 rfl (lv_at hl 0 rfl) ?_
  refine lv_ldcw (v := 858993459) hx hb hown (hts (.constant RJ6 266 (858993459)) (List.mem_of_getElem? (i := 2) rfl)) dJ6_bitCount_0f7a4_11 ?_
  refine lv_iand hx hb dJ6_bitCount_0f7a4_14 ?_
  refine lv_topi (fun x_4 ex_4 => ?_)
  have hx_4 : rg (0) (858993459) x_4 := by rw [ex_4]; exact rg_mono (rg_andr (b := 858993459) (rg_mono (rg_k (x := 858993459) (c := 858993459) (by decide)) (by decide) (by decide))) (by decide) (by decide)
  refine lv_iload_n hx hb dJ6_bitCount_0f7a4_15 rfl (lv_at hl 0 rfl) ?_
  refine lv_iconst (v := 2) hx hb dJ6_bitCount_0f7a4_16 (by decide) ?_
  refine lv_iushr hx hb dJ6_bitCount_0f7a4_17 rfl ?_
  refine lv_topi (fun x_5 ex_5 => ?_)
  have hx_5 : rg (0) (1073741823) x_5 := by rw [ex_5]; exact rg_mono (rg_ushr 2 (by decide) (by decide)) (by decide) (by decide)
  refine lv_ldcw (v := 858993459) hx hb hown (hts (.constant RJ6 266 (858993459)) (List.mem_of_getElem? (i := 2) rfl)) dJ6_bitCount_0f7a4_18 ?_
  refine lv_iand hx hb dJ6_bitCount_0f7a4_21 ?_
  refine lv_topi (fun x_6 ex_6 => ?_)
  have hx_6 : rg (0) (858993459) x_6 := by rw [ex_6]; exact rg_mono (rg_andr (b := 858993459) (rg_mono (rg_k (x := 858993459) (c := 858993459) (by decide)) (by decide) (by decide))) (by decide) (by decide)
  have kx_6_0 : rg 1 2147483647 x_6 → rg 1 (1073741823) x_5 := fun hq => rg_andP hx_5 (ex_6 ▸ hq)
  refine lv_iadd hx hb dJ6_bitCount_0f7a4_22 ?_
  refine lv_topi (fun x_7 ex_7 => ?_)
  have hx_7 : rg (0) (1717986918) x_7 := by rw [ex_7]; exact rg_mono (rg_add hx_4 hx_6 (by decide) (by decide)) (by decide) (by decide)
  have qx_7 : x_7.toInt = x_4.toInt + x_6.toInt := by rw [ex_7]; exact rg_addQ hx_4 hx_6 (by decide) (by decide)
  refine lv_istore_n (lv' := [(0, .int x_7)]) hx hb dJ6_bitCount_0f7a4_23 rfl hl (by decide) rfl (fun ls hl => ?_)
  refine lv_iload_n hx hb dJ6_bitCount_0f7a4_24 rfl (lv_at hl 0 rfl) ?_
  refine lv_iload_n hx hb dJ6_bitCount_0f7a4_25 rfl (lv_at hl 0 rfl) ?_
  refine lv_iconst (v := 4) hx hb dJ6_bitCount_0f7a4_26 (by decide) ?_
  refine lv_iushr hx hb dJ6_bitCount_0f7a4_27 rfl ?_
  refine lv_topi (fun x_8 ex_8 => ?_)
  have hx_8 : rg (0) (268435455) x_8 := by rw [ex_8]; exact rg_mono (rg_ushr 4 (by decide) (by decide)) (by decide) (by decide)
  refine lv_iadd hx hb dJ6_bitCount_0f7a4_28 ?_
  refine lv_topi (fun x_9 ex_9 => ?_)
  have hx_9 : rg (0) (1986422373) x_9 := by rw [ex_9]; exact rg_mono (rg_add hx_7 hx_8 (by decide) (by decide)) (by decide) (by decide)
  have qx_9 : x_9.toInt = x_7.toInt + x_8.toInt := by rw [ex_9]; exact rg_addQ hx_7 hx_8 (by decide) (by decide)
  refine lv_ldcw (v := 252645135) hx hb hown (hts (.constant RJ6 267 (252645135)) (List.mem_of_getElem? (i := 3) rfl)) dJ6_bitCount_0f7a4_29 ?_
  refine lv_iand hx hb dJ6_bitCount_0f7a4_32 ?_
  refine lv_topi (fun x_10 ex_10 => ?_)
  have hx_10 : rg (0) (252645135) x_10 := by rw [ex_10]; exact rg_mono (rg_andr (b := 252645135) (rg_mono (rg_k (x := 252645135) (c := 252645135) (by decide)) (by decide) (by decide))) (by decide) (by decide)
  have kx_10_0 : rg 1 2147483647 x_10 → rg 1 (1986422373) x_9 := fun hq => rg_andP hx_9 (ex_10 ▸ hq)
  refine lv_istore_n (lv' := [(0, .int x_10)]) hx hb dJ6_bitCount_0f7a4_33 rfl hl (by decide) rfl (fun ls hl => ?_)
  refine lv_iload_n hx hb dJ6_bitCount_0f7a4_34 rfl (lv_at hl 0 rfl) ?_
  refine lv_iload_n hx hb dJ6_bitCount_0f7a4_35 rfl (lv_at hl 0 rfl) ?_
  refine lv_bipush (v := 8) hx hb dJ6_bitCount_0f7a4_36 (by decide) ?_
  refine lv_iushr hx hb dJ6_bitCount_0f7a4_38 rfl ?_
  refine lv_topi (fun x_11 ex_11 => ?_)
  have hx_11 : rg (0) (16777215) x_11 := by rw [ex_11]; exact rg_mono (rg_ushr 8 (by decide) (by decide)) (by decide) (by decide)
  refine lv_iadd hx hb dJ6_bitCount_0f7a4_39 ?_
  refine lv_topi (fun x_12 ex_12 => ?_)
  have hx_12 : rg (0) (269422350) x_12 := by rw [ex_12]; exact rg_mono (rg_add hx_10 hx_11 (by decide) (by decide)) (by decide) (by decide)
  have qx_12 : x_12.toInt = x_10.toInt + x_11.toInt := by rw [ex_12]; exact rg_addQ hx_10 hx_11 (by decide) (by decide)
  refine lv_istore_n (lv' := [(0, .int x_12)]) hx hb dJ6_bitCount_0f7a4_40 rfl hl (by decide) rfl (fun ls hl => ?_)
  refine lv_iload_n hx hb dJ6_bitCount_0f7a4_41 rfl (lv_at hl 0 rfl) ?_
  refine lv_iload_n hx hb dJ6_bitCount_0f7a4_42 rfl (lv_at hl 0 rfl) ?_
  refine lv_bipush (v := 16) hx hb dJ6_bitCount_0f7a4_43 (by decide) ?_
  refine lv_iushr hx hb dJ6_bitCount_0f7a4_45 rfl ?_
  refine lv_topi (fun x_13 ex_13 => ?_)
  have hx_13 : rg (0) (65535) x_13 := by rw [ex_13]; exact rg_mono (rg_ushr 16 (by decide) (by decide)) (by decide) (by decide)
  refine lv_iadd hx hb dJ6_bitCount_0f7a4_46 ?_
  refine lv_topi (fun x_14 ex_14 => ?_)
  have hx_14 : rg (0) (269487885) x_14 := by rw [ex_14]; exact rg_mono (rg_add hx_12 hx_13 (by decide) (by decide)) (by decide) (by decide)
  have qx_14 : x_14.toInt = x_12.toInt + x_13.toInt := by rw [ex_14]; exact rg_addQ hx_12 hx_13 (by decide) (by decide)
  refine lv_istore_n (lv' := [(0, .int x_14)]) hx hb dJ6_bitCount_0f7a4_47 rfl hl (by decide) rfl (fun ls hl => ?_)
  refine lv_iload_n hx hb dJ6_bitCount_0f7a4_48 rfl (lv_at hl 0 rfl) ?_
  refine lv_bipush (v := 63) hx hb dJ6_bitCount_0f7a4_49 (by decide) ?_
  refine lv_iand hx hb dJ6_bitCount_0f7a4_51 ?_
  refine lv_topi (fun x_15 ex_15 => ?_)
  have hx_15 : rg (0) (63) x_15 := by rw [ex_15]; exact rg_mono (rg_andr (b := 63) (rg_mono (rg_k (x := 63) (c := 63) (by decide)) (by decide) (by decide))) (by decide) (by decide)
  have kx_15_0 : rg 1 2147483647 x_15 → rg 1 (269487885) x_14 := fun hq => rg_andP hx_14 (ex_15 ▸ hq)
  have h_16 : x_15 = bcE p0 := by subst x_1 x_2 x_3 x_4 x_5 x_6 x_7 x_8 x_9 x_10 x_11 x_12 x_13 x_14 x_15; rfl
  have gh_16 := bc_9 hp0
  rw [← h_16] at gh_16
  have hP9 := hP.sub (ws' := []) [] rfl
  have hD9 := hD.sub (ws' := []) [] (by decide) rfl
  exact W.iret (v := x_15) hx hb hr (fun t ht hW => ⟨⟨x_15, (), rfl, ⟨(rg_mono gh_16.1 (by decide) (by decide)), fun hq => rg_mono (gh_16.2 (rg_mono hq (by decide) (by decide))) (by decide) (by decide)⟩, ⟨by rw [ht]; exact hP9, hD9⟩⟩, hS.F ht⟩) hS.2.2 dJ6_bitCount_0f7a4_52
def v_s_X0_leaderOf : List Cond := Cond.code yX0_leaderOf cX0_leaderOf 3 (some .int) :: ([Cond.fieldLink RX0 30 "MayRings$Families" "count" "I", Cond.fieldLink RX0 15 "MayRings$Families" "orders" "[I", Cond.methodLink RX0 118 yX0_mayLead, Cond.instanceMethod yX0_mayLead, Cond.selects RX0 yX0_mayLead yX0_mayLead, Cond.initialized RX0, Cond.methodLink RX0 122 yX0_canLead, Cond.instanceMethod yX0_canLead, Cond.selects RX0 yX0_canLead yX0_canLead] ++ (wsX00 ++ (v_s_X0_mayLead ++ (v_s_X0_canLead ++ ([])))))
theorem k_s_X0_leaderOf : GoodIn lw_tbl v_s_X0_leaderOf := gd_c (List.mem_of_getElem? (i := 1066) (by decide +kernel)) rfl (goodIn_app (gd_c (List.mem_of_getElem? (i := 506) (by decide +kernel)) rfl (gd_c (List.mem_of_getElem? (i := 501) (by decide +kernel)) rfl (gd_c (List.mem_of_getElem? (i := 1067) (by decide +kernel)) rfl (gd_c (List.mem_of_getElem? (i := 1069) (by decide +kernel)) rfl (gd_c (List.mem_of_getElem? (i := 59) (by decide +kernel)) rfl (gd_c (List.mem_of_getElem? (i := 143) (by decide +kernel)) rfl (gd_c (List.mem_of_getElem? (i := 1071) (by decide +kernel)) rfl (gd_c (List.mem_of_getElem? (i := 1073) (by decide +kernel)) rfl (gd_c (List.mem_of_getElem? (i := 60) (by decide +kernel)) rfl (gd_nil)))))))))) (goodIn_app kfX0 (goodIn_app k_s_X0_mayLead (goodIn_app k_s_X0_canLead (gd_nil)))))
set_option maxHeartbeats 2000000 in
set_option maxRecDepth 100000 in
theorem c_s_X0_leaderOf (l : Launch) (dC : Nat → ClassId) (dI : Nat → Nat → Nat) (cB cI cJ cZ cP : ClassId) (h0 : Nat) (h1 : Nat) (g0 : Nat → Int32) (h2 : Nat) (g1 : Nat → Int32) (h3 : Nat) (g2 : Nat → Int32) (h4 : Nat) (h5 : Nat) (h6 : Nat) (g5 : Nat → Int32) (a0 : Int32) (ha0 : rg (0) (2520) a0) (a1 : Int32) (ha1 : rg (0) (2520) a1) (a2 : Int32) (ha2 : rg (0) (9) a2) (a3 : Int32) (p0 : Int32) (sz : Nat) : Met l yX0_leaderOf v_s_X0_leaderOf ({ frames := 3, cells := 0, slots := 0, locals := 66 }) (va_Pc [.ref h0, .int p0] (fun U => U.heap.size = sz ∧ va_P (dC, dI) vwCl [(h0, .inr (0, [.ref h1, .ref h2, .ref h3, .ref h4, .ref h5, .ref h6, .int a0, .int a1, .int a2, .int a3])), (h1, .inl (cI, 2520, .inl g0)), (h2, .inl (cI, 2520, .inl g1)), (h3, .inl (cI, 2520, .inl g2)), (h6, .inl (cI, 9, .inl g5))] U.heap ∧ va_K (dC, dI) vwCl (ty5 cB cI cJ cZ cP) U ∧ va_D (fun _ => True) [(h0, .inr (0, [.ref h1, .ref h2, .ref h3, .ref h4, .ref h5, .ref h6, .int a0, .int a1, .int a2, .int a3])), (h1, .inl (cI, 2520, .inl g0)), (h2, .inl (cI, 2520, .inl g1)), (h3, .inl (cI, 2520, .inl g2)), (h6, .inl (cI, 9, .inl g5))])) (va_Qi (fun (r : Int32) (u9 : Unit) => rg (-1) (2519) r) (fun u9 t => ∃ (z0 : Int32) (z1 : Nat → Int32), rg (0) (2520) z0 ∧ va_P (dC, dI) vwCl [(h0, .inr (0, [.ref h1, .ref h2, .ref h3, .ref h4, .ref h5, .ref h6, .int a0, .int z0, .int a2, .int a3])), (h1, .inl (cI, 2520, .inl g0)), (h2, .inl (cI, 2520, .inl g1)), (h3, .inl (cI, 2520, .inl z1)), (h6, .inl (cI, 9, .inl g5))] t.heap ∧ va_D (va_A [(h0, .inr (0, [.ref h1, .ref h2, .ref h3, .ref h4, .ref h5, .ref h6, .int a0, .int a1, .int a2, .int a3])), (h1, .inl (cI, 2520, .inl g0)), (h2, .inl (cI, 2520, .inl g1)), (h3, .inl (cI, 2520, .inl g2)), (h6, .inl (cI, 9, .inl g5))] sz) [(h0, .inr (0, [.ref h1, .ref h2, .ref h3, .ref h4, .ref h5, .ref h6, .int a0, .int z0, .int a2, .int a3])), (h1, .inl (cI, 2520, .inl g0)), (h2, .inl (cI, 2520, .inl g1)), (h3, .inl (cI, 2520, .inl z1)), (h6, .inl (cI, 9, .inl g5))]) (va_A [(h0, .inr (0, [.ref h1, .ref h2, .ref h3, .ref h4, .ref h5, .ref h6, .int a0, .int a1, .int a2, .int a3])), (h1, .inl (cI, 2520, .inl g0)), (h2, .inl (cI, 2520, .inl g1)), (h3, .inl (cI, 2520, .inl g2)), (h6, .inl (cI, 9, .inl g5))] sz)) 0 0 (va_A [(h0, .inr (0, [.ref h1, .ref h2, .ref h3, .ref h4, .ref h5, .ref h6, .int a0, .int a1, .int a2, .int a3])), (h1, .inl (cI, 2520, .inl g0)), (h2, .inl (cI, 2520, .inl g1)), (h3, .inl (cI, 2520, .inl g2)), (h6, .inl (cI, 9, .inl g5))] sz) := by
  refine Met.ofW (cc := cX0_leaderOf) (maxL := 3) (ret := (some .int)) (by decide) rfl ?_
  intro p e s m args below meth c s₁ B hml hv
  obtain ⟨rfl, hsz, hP, hK, hD0⟩ := hv
  have hx := B.exec
  have hb := B.bytes
  have hr := B.returns
  have hts := atoms_spec (ws := v_s_X0_leaderOf) B.pre
  have hown : s.vm.findClass RX0 = some m.cls := findClass_of_methodNamed B.named
  have hlocks := B.notSynchronized
  have hinX0 : ∀ w ∈ wsX00, w ∈ v_s_X0_leaderOf := fun _ h => List.mem_cons_of_mem _ (List.mem_append_right _ (List.mem_append_left _ h))
  subst hsz
  have hD := hD0.self (sz := s.heap.size)
  generalize hAe : va_A [(h0, .inr (0, [.ref h1, .ref h2, .ref h3, .ref h4, .ref h5, .ref h6, .int a0, .int a1, .int a2, .int a3])), (h1, .inl (cI, 2520, .inl g0)), (h2, .inl (cI, 2520, .inl g1)), (h3, .inl (cI, 2520, .inl g2)), (h6, .inl (cI, 9, .inl g5))] s.heap.size = A at hD ⊢
  have hA : ∀ q : Nat, s.heap.size ≤ q → A q := fun q h => by rw [← hAe]; exact Or.inr h
  have hP : va_P (dC, dI) vwCl [(h0, .inr (0, [.ref h1, .ref h2, .ref h3, .ref h4, .ref h5, .ref h6, .int a0, .int a1, .int a2, .int a3])), (h1, .inl (cI, 2520, .inl g0)), (h2, .inl (cI, 2520, .inl g1)), (h3, .inl (cI, 2520, .inl g2)), (h6, .inl (cI, 9, .inl g5))] s.heap := hP
  have hl := lv_entry ([.ref h0, .int p0]) (n := 3) (Nat.le_of_ble_eq_true rfl)
  rw [lg_entry_eq]
  generalize (lg_sl ([.ref h0, .int p0]) ++ List.replicate (3 - (lg_sl ([.ref h0, .int p0])).length) Slot.unset).toArray = ls at hl ⊢
  have hl : lv_has ls 3 [(0, .ref h0), (1, .int p0)] := hl
  refine W_gen (A := A) hP (fun H locs hP hS => ?_)
  refine lv_iconst (v := 0) hx hb dX0_leaderOf_0 (by decide) ?_
  refine lv_istore_n (lv' := [(2, .int 0), (0, .ref h0), (1, .int p0)]) hx hb dX0_leaderOf_1 rfl hl (by decide) rfl (fun ls hl => ?_)
  refine W_loopM (σ := Int32 × (Nat → Int32) × Int32) (fun u H locs ls => va_P (dC, dI) vwCl [(h0, .inr (0, [.ref h1, .ref h2, .ref h3, .ref h4, .ref h5, .ref h6, .int a0, .int u.2.2, .int a2, .int a3])), (h1, .inl (cI, 2520, .inl g0)), (h2, .inl (cI, 2520, .inl g1)), (h3, .inl (cI, 2520, .inl u.2.1)), (h6, .inl (cI, 9, .inl g5))] H ∧ va_D A [(h0, .inr (0, [.ref h1, .ref h2, .ref h3, .ref h4, .ref h5, .ref h6, .int a0, .int u.2.2, .int a2, .int a3])), (h1, .inl (cI, 2520, .inl g0)), (h2, .inl (cI, 2520, .inl g1)), (h3, .inl (cI, 2520, .inl u.2.1)), (h6, .inl (cI, 9, .inl g5))] ∧ va_S A s.heap H locs ∧ lv_has ls 3 [(2, .int u.1), (0, .ref h0), (1, .int p0)] ∧ rg (0) (2520) u.1 ∧ rg (0) (2520) u.2.2) (fun u => ((2520) - u.1.toInt).toNat) 2 [] ?_ (0, g2, a1) H locs ls ⟨hP, hD, hS, hl, (rg_mono (rg_k (x := 0) (c := 0) (by decide)) (by decide) (by decide)), (rg_mono ha1 (by decide) (by decide))⟩
  rintro ⟨x_775, f_776, x_777⟩ H locs ls ⟨hP, hD, hS, hl, hx_775, hx_777⟩ ih_794
  have hP : va_P (dC, dI) vwCl [(h0, .inr (0, [.ref h1, .ref h2, .ref h3, .ref h4, .ref h5, .ref h6, .int a0, .int x_777, .int a2, .int a3])), (h1, .inl (cI, 2520, .inl g0)), (h2, .inl (cI, 2520, .inl g1)), (h3, .inl (cI, 2520, .inl f_776)), (h6, .inl (cI, 9, .inl g5))] H := hP
  have hD : va_D A [(h0, .inr (0, [.ref h1, .ref h2, .ref h3, .ref h4, .ref h5, .ref h6, .int a0, .int x_777, .int a2, .int a3])), (h1, .inl (cI, 2520, .inl g0)), (h2, .inl (cI, 2520, .inl g1)), (h3, .inl (cI, 2520, .inl f_776)), (h6, .inl (cI, 9, .inl g5))] := hD
  have hl : lv_has ls 3 [(2, .int x_775), (0, .ref h0), (1, .int p0)] := hl
  have hx_775 : rg (0) (2520) x_775 := hx_775
  have hx_777 : rg (0) (2520) x_777 := hx_777
  refine lv_iload_n hx hb dX0_leaderOf_2 rfl (lv_at hl 0 rfl) ?_
  refine lv_aload_n hx hb dX0_leaderOf_3 rfl (lv_at hl 1 rfl) ?_
  refine va_get (D := (dC, dI)) (ci := 0) (v := .int a0) (C := RX0) (T := TX0) (N := 10) hx hb hts hinX0 hown hK hP 0 rfl rfl 6 (by decide) (hts (.fieldLink RX0 30 "MayRings$Families" "count" "I") (List.mem_of_getElem? (i := 1) rfl)) (fun _ h9 => h9) rfl dX0_leaderOf_4 ?_
  refine lv_icmp_ge (tgt := 40) hx hb dX0_leaderOf_7 (by decide) (fun c_795 => ?_) (fun c_795 => ?_)
  · skip
    refine lv_iconst (v := (-1)) hx hb dX0_leaderOf_40 (by decide) ?_
    have hP9 := hP.sub (ws' := [(h0, .inr (0, [.ref h1, .ref h2, .ref h3, .ref h4, .ref h5, .ref h6, .int a0, .int x_777, .int a2, .int a3])), (h1, .inl (cI, 2520, .inl g0)), (h2, .inl (cI, 2520, .inl g1)), (h3, .inl (cI, 2520, .inl f_776)), (h6, .inl (cI, 9, .inl g5))]) [0, 1, 2, 3, 4] rfl
    have hD9 := hD.sub (ws' := [(h0, .inr (0, [.ref h1, .ref h2, .ref h3, .ref h4, .ref h5, .ref h6, .int a0, .int x_777, .int a2, .int a3])), (h1, .inl (cI, 2520, .inl g0)), (h2, .inl (cI, 2520, .inl g1)), (h3, .inl (cI, 2520, .inl f_776)), (h6, .inl (cI, 9, .inl g5))]) [0, 1, 2, 3, 4] (by decide) rfl
    exact W.iret (v := (-1)) hx hb hr (fun t ht hW => ⟨⟨(-1), (), rfl, (rg_mono (rg_k (x := (-1)) (c := -1) (by decide)) (by decide) (by decide)), ⟨x_777, f_776, (rg_mono hx_777 (by decide) (by decide)), by rw [ht]; exact hP9, hD9⟩⟩, hS.F ht⟩) hS.2.2 dX0_leaderOf_41
  · skip
    have h_796 : rg (0) (2519) x_775 := by have ha := hx_775; have hb_ := ha0; simp only [rg, fa_lt, fa_le, fa_eq] at ha hb_ c_795; simp only [rg]; omega
    have h_797 : rg (1) (2520) a0 := by have ha := hx_775; have hb_ := ha0; simp only [rg, fa_lt, fa_le, fa_eq] at ha hb_ c_795; simp only [rg]; omega
    refine lv_aload_n hx hb dX0_leaderOf_10 rfl (lv_at hl 1 rfl) ?_
    refine lv_aload_n hx hb dX0_leaderOf_11 rfl (lv_at hl 1 rfl) ?_
    refine va_get (D := (dC, dI)) (ci := 0) (v := .ref h2) (C := RX0) (T := TX0) (N := 10) hx hb hts hinX0 hown hK hP 0 rfl rfl 1 (by decide) (hts (.fieldLink RX0 15 "MayRings$Families" "orders" "[I") (List.mem_of_getElem? (i := 2) rfl)) (fun _ h9 => h9) rfl dX0_leaderOf_12 ?_
    refine lv_iload_n hx hb dX0_leaderOf_15 rfl (lv_at hl 0 rfl) ?_
    refine va_iald hx hb hK hP 2 1 rfl rfl (rg_in (n := 2520) (rg_mono h_796 (by decide) (by decide))) dX0_leaderOf_16 ?_
    refine lv_topi (fun x_798 ex_798 => ?_)
    have hPc := hP.sub (ws' := [(h0, .inr (0, [.ref h1, .ref h2, .ref h3, .ref h4, .ref h5, .ref h6, .int a0, .int x_777, .int a2, .int a3])), (h6, .inl (cI, 9, .inl g5))]) [0, 4] rfl
    have hDc := hD.sub (ws' := [(h0, .inr (0, [.ref h1, .ref h2, .ref h3, .ref h4, .ref h5, .ref h6, .int a0, .int x_777, .int a2, .int a3])), (h6, .inl (cI, 9, .inl g5))]) [0, 4] (by decide) rfl
    have hFc := va_free (wc := [(h0, .inr (0, [.ref h1, .ref h2, .ref h3, .ref h4, .ref h5, .ref h6, .int a0, .int x_777, .int a2, .int a3])), (h6, .inl (cI, 9, .inl g5))]) hD hS hA [0, 4] rfl
    refine va_calli (va_runV (As := [.int x_798]) (rest := []) ⟨hx, hb, hml, hown, hts⟩ (c_s_X0_mayLead l dC dI cB cI cJ cZ cP h0 h1 h2 h3 h4 h5 h6 g5 a0 x_777 a2 (rg_mono ha2 (by decide) (by decide)) a3 x_798 H.size) (cwV 1 hts (gd_V (List.mem_of_getElem? (i := 3) rfl) (List.mem_of_getElem? (i := 4) rfl) (List.mem_of_getElem? (i := 5) rfl) (List.mem_of_getElem? (i := 6) rfl) (gd_mono k_s_X0_mayLead (fun _ h => List.mem_cons_of_mem _ (List.mem_append_right _ (List.mem_append_right _ (List.mem_append_left _ h)))))) rfl rfl rfl (by decide +kernel) ⟨Nat.le_of_ble_eq_true rfl, Nat.le_of_ble_eq_true rfl⟩) ⟨fun a U g mk q => by obtain ⟨q0, q1, qP, qK, qD⟩ := q; exact ⟨q0, q1, qP, va_K.moved (u := U) (U := U.calling g mk a) (Vm.Alike.refl U.vm) qK, qD⟩, va_recv hK hPc (ci := 0) (q0 := 0) rfl rfl, fun U hU hW => ⟨rfl, by rw [hU], by rw [hU]; exact hPc, va_K.moved hW.alike hK, hDc.weaken (fun _ _ _ _ => trivial)⟩⟩ rfl rfl hl.1 rfl (lv_room (Nat.le_of_ble_eq_true rfl)) dX0_leaderOf_17 ⟨Nat.le_of_ble_eq_true rfl, Nat.le_of_ble_eq_true rfl⟩) hS (fun q _ h => hFc q h) hFc (fun r_799 u t H1 locs ht hvm hw hB hz1 hk1 hS => ?_)
    obtain ⟨hP1, hD1⟩ := hB
    rw [ht] at hP1
    obtain ⟨hP, hD⟩ := va_join (wr := [(h1, .inl (cI, 2520, .inl g0)), (h2, .inl (cI, 2520, .inl g1)), (h3, .inl (cI, 2520, .inl f_776))]) (w1 := [(h0, .inr (0, [.ref h1, .ref h2, .ref h3, .ref h4, .ref h5, .ref h6, .int a0, .int x_777, .int a2, .int a3])), (h6, .inl (cI, 9, .inl g5))]) hP hD [0, 4] [1, 2, 3] rfl rfl (by decide) (by decide) hk1 hFc hP1 hD1
    generalize H1 = H at hP hS ⊢
    have hP : va_P (dC, dI) vwCl [(h1, .inl (cI, 2520, .inl g0)), (h2, .inl (cI, 2520, .inl g1)), (h3, .inl (cI, 2520, .inl f_776)), (h0, .inr (0, [.ref h1, .ref h2, .ref h3, .ref h4, .ref h5, .ref h6, .int a0, .int x_777, .int a2, .int a3])), (h6, .inl (cI, 9, .inl g5))] H := hP
    have hD : va_D A [(h1, .inl (cI, 2520, .inl g0)), (h2, .inl (cI, 2520, .inl g1)), (h3, .inl (cI, 2520, .inl f_776)), (h0, .inr (0, [.ref h1, .ref h2, .ref h3, .ref h4, .ref h5, .ref h6, .int a0, .int x_777, .int a2, .int a3])), (h6, .inl (cI, 9, .inl g5))] := hD
    have hr_799 : rg (0) (1) r_799 := hw
    refine lv_if_eq (tgt := 34) hx hb dX0_leaderOf_20 (by decide) (fun c_800 => ?_) (fun c_800 => ?_)
    · skip
      have h_801 : rg (0) (0) r_799 := by have ha := hr_799; have hb_ := (rg_k (x := 0) (c := 0) (by decide)); simp only [rg, fa_lt, fa_le, fa_eq, (by decide : (0 : Int32).toInt = 0)] at ha hb_ c_800; simp only [rg]; omega
      obtain ⟨x_802, ex_802⟩ : ∃ y : Int32, y = x_775 + Int32.ofInt (1) := ⟨_, rfl⟩
      have hx_802 : rg (1) (2520) x_802 := by rw [ex_802]; exact rg_mono (rg_add h_796 (rg_k (x := Int32.ofInt (1)) (c := 1) (by decide)) (by decide) (by decide)) (by decide) (by decide)
      have qx_802 : x_802.toInt = x_775.toInt + (1) := by rw [ex_802]; exact rg_addE h_796 (rg_k (x := Int32.ofInt (1)) (c := 1) (by decide)) (by decide) (by decide) (by decide)
      refine lv_iinc (v := x_802) (lv' := [(2, .int x_802), (0, .ref h0), (1, .int p0)]) hx hb dX0_leaderOf_34 hl (k := 0) rfl (ex_802.symm) (by decide) rfl (fun ls hl => ?_)
      clear ex_802
      refine lv_goto (tgt := 2) hx hb dX0_leaderOf_37 (by decide) ?_
      exact ih_794 (x_802, f_776, x_777) H locs ls ⟨hP.sub (ws' := [(h0, .inr (0, [.ref h1, .ref h2, .ref h3, .ref h4, .ref h5, .ref h6, .int a0, .int x_777, .int a2, .int a3])), (h1, .inl (cI, 2520, .inl g0)), (h2, .inl (cI, 2520, .inl g1)), (h3, .inl (cI, 2520, .inl f_776)), (h6, .inl (cI, 9, .inl g5))]) [3, 0, 1, 2, 4] rfl, hD.sub (ws' := [(h0, .inr (0, [.ref h1, .ref h2, .ref h3, .ref h4, .ref h5, .ref h6, .int a0, .int x_777, .int a2, .int a3])), (h1, .inl (cI, 2520, .inl g0)), (h2, .inl (cI, 2520, .inl g1)), (h3, .inl (cI, 2520, .inl f_776)), (h6, .inl (cI, 9, .inl g5))]) [3, 0, 1, 2, 4] (by decide) rfl, hS, lv_sub hl [0, 1, 2] rfl, (rg_mono hx_802 (by decide) (by decide)), (rg_mono hx_777 (by decide) (by decide))⟩ (by show ((2520) - x_802.toInt).toNat < ((2520) - x_775.toInt).toNat; have ha := h_796; simp only [rg] at ha; omega)
    · skip
      have h_803 : rg (1) (1) r_799 := by have ha := hr_799; have hb_ := (rg_k (x := 0) (c := 0) (by decide)); simp only [rg, fa_lt, fa_le, fa_eq, (by decide : (0 : Int32).toInt = 0)] at ha hb_ c_800; simp only [rg]; omega
      refine lv_aload_n hx hb dX0_leaderOf_23 rfl (lv_at hl 1 rfl) ?_
      refine lv_iload_n hx hb dX0_leaderOf_24 rfl (lv_at hl 0 rfl) ?_
      refine lv_iload_n hx hb dX0_leaderOf_25 rfl (lv_at hl 2 rfl) ?_
      have hPc := hP.sub (ws' := [(h0, .inr (0, [.ref h1, .ref h2, .ref h3, .ref h4, .ref h5, .ref h6, .int a0, .int x_777, .int a2, .int a3])), (h1, .inl (cI, 2520, .inl g0)), (h3, .inl (cI, 2520, .inl f_776))]) [3, 0, 2] rfl
      have hDc := hD.sub (ws' := [(h0, .inr (0, [.ref h1, .ref h2, .ref h3, .ref h4, .ref h5, .ref h6, .int a0, .int x_777, .int a2, .int a3])), (h1, .inl (cI, 2520, .inl g0)), (h3, .inl (cI, 2520, .inl f_776))]) [3, 0, 2] (by decide) rfl
      have hFc := va_free (wc := [(h0, .inr (0, [.ref h1, .ref h2, .ref h3, .ref h4, .ref h5, .ref h6, .int a0, .int x_777, .int a2, .int a3])), (h1, .inl (cI, 2520, .inl g0)), (h3, .inl (cI, 2520, .inl f_776))]) hD hS hA [3, 0, 2] rfl
      refine va_calli (va_runV (As := [.int x_775, .int p0]) (rest := []) ⟨hx, hb, hml, hown, hts⟩ (c_s_X0_canLead l dC dI cB cI cJ cZ cP h0 h1 g0 h2 h3 f_776 h4 h5 h6 a0 (rg_mono h_797 (by decide) (by decide)) x_777 a2 a3 x_775 (rg_mono h_796 (by decide) (by decide)) p0 H.size) (cwV 2 hts (gd_V (List.mem_of_getElem? (i := 7) rfl) (List.mem_of_getElem? (i := 8) rfl) (List.mem_of_getElem? (i := 9) rfl) (List.mem_of_getElem? (i := 6) rfl) (gd_mono k_s_X0_canLead (fun _ h => List.mem_cons_of_mem _ (List.mem_append_right _ (List.mem_append_right _ (List.mem_append_right _ (List.mem_append_left _ h))))))) rfl rfl rfl (by decide +kernel) ⟨Nat.le_of_ble_eq_true rfl, Nat.le_of_ble_eq_true rfl⟩) ⟨fun a U g mk q => by obtain ⟨q0, q1, qP, qK, qD⟩ := q; exact ⟨q0, q1, qP, va_K.moved (u := U) (U := U.calling g mk a) (Vm.Alike.refl U.vm) qK, qD⟩, va_recv hK hPc (ci := 0) (q0 := 0) rfl rfl, fun U hU hW => ⟨rfl, by rw [hU], by rw [hU]; exact hPc, va_K.moved hW.alike hK, hDc.weaken (fun _ _ _ _ => trivial)⟩⟩ rfl rfl hl.1 rfl (lv_room (Nat.le_of_ble_eq_true rfl)) dX0_leaderOf_26 ⟨Nat.le_of_ble_eq_true rfl, Nat.le_of_ble_eq_true rfl⟩) hS (fun q _ h => hFc q h) hFc (fun r_804 u t H1 locs ht hvm hw hB hz1 hk1 hS => ?_)
      obtain ⟨x_805, f_806, hx_805, hP1, hD1⟩ := hB
      rw [ht] at hP1
      obtain ⟨hP, hD⟩ := va_join (wr := [(h2, .inl (cI, 2520, .inl g1)), (h6, .inl (cI, 9, .inl g5))]) (w1 := [(h0, .inr (0, [.ref h1, .ref h2, .ref h3, .ref h4, .ref h5, .ref h6, .int a0, .int x_805, .int a2, .int a3])), (h1, .inl (cI, 2520, .inl g0)), (h3, .inl (cI, 2520, .inl f_806))]) hP hD [3, 0, 2] [1, 4] rfl rfl (by decide) (by decide) hk1 hFc hP1 hD1
      generalize H1 = H at hP hS ⊢
      have hP : va_P (dC, dI) vwCl [(h2, .inl (cI, 2520, .inl g1)), (h6, .inl (cI, 9, .inl g5)), (h0, .inr (0, [.ref h1, .ref h2, .ref h3, .ref h4, .ref h5, .ref h6, .int a0, .int x_805, .int a2, .int a3])), (h1, .inl (cI, 2520, .inl g0)), (h3, .inl (cI, 2520, .inl f_806))] H := hP
      have hD : va_D A [(h2, .inl (cI, 2520, .inl g1)), (h6, .inl (cI, 9, .inl g5)), (h0, .inr (0, [.ref h1, .ref h2, .ref h3, .ref h4, .ref h5, .ref h6, .int a0, .int x_805, .int a2, .int a3])), (h1, .inl (cI, 2520, .inl g0)), (h3, .inl (cI, 2520, .inl f_806))] := hD
      have hr_804 : rg (0) (1) r_804 := hw
      refine lv_if_eq (tgt := 34) hx hb dX0_leaderOf_29 (by decide) (fun c_807 => ?_) (fun c_807 => ?_)
      · skip
        have h_808 : rg (0) (0) r_804 := by have ha := hr_804; have hb_ := (rg_k (x := 0) (c := 0) (by decide)); simp only [rg, fa_lt, fa_le, fa_eq, (by decide : (0 : Int32).toInt = 0)] at ha hb_ c_807; simp only [rg]; omega
        obtain ⟨x_809, ex_809⟩ : ∃ y : Int32, y = x_775 + Int32.ofInt (1) := ⟨_, rfl⟩
        have hx_809 : rg (1) (2520) x_809 := by rw [ex_809]; exact rg_mono (rg_add h_796 (rg_k (x := Int32.ofInt (1)) (c := 1) (by decide)) (by decide) (by decide)) (by decide) (by decide)
        have qx_809 : x_809.toInt = x_775.toInt + (1) := by rw [ex_809]; exact rg_addE h_796 (rg_k (x := Int32.ofInt (1)) (c := 1) (by decide)) (by decide) (by decide) (by decide)
        refine lv_iinc (v := x_809) (lv' := [(2, .int x_809), (0, .ref h0), (1, .int p0)]) hx hb dX0_leaderOf_34 hl (k := 0) rfl (ex_809.symm) (by decide) rfl (fun ls hl => ?_)
        clear ex_809
        refine lv_goto (tgt := 2) hx hb dX0_leaderOf_37 (by decide) ?_
        exact ih_794 (x_809, f_806, x_805) H locs ls ⟨hP.sub (ws' := [(h0, .inr (0, [.ref h1, .ref h2, .ref h3, .ref h4, .ref h5, .ref h6, .int a0, .int x_805, .int a2, .int a3])), (h1, .inl (cI, 2520, .inl g0)), (h2, .inl (cI, 2520, .inl g1)), (h3, .inl (cI, 2520, .inl f_806)), (h6, .inl (cI, 9, .inl g5))]) [2, 3, 0, 4, 1] rfl, hD.sub (ws' := [(h0, .inr (0, [.ref h1, .ref h2, .ref h3, .ref h4, .ref h5, .ref h6, .int a0, .int x_805, .int a2, .int a3])), (h1, .inl (cI, 2520, .inl g0)), (h2, .inl (cI, 2520, .inl g1)), (h3, .inl (cI, 2520, .inl f_806)), (h6, .inl (cI, 9, .inl g5))]) [2, 3, 0, 4, 1] (by decide) rfl, hS, lv_sub hl [0, 1, 2] rfl, (rg_mono hx_809 (by decide) (by decide)), (rg_mono hx_805 (by decide) (by decide))⟩ (by show ((2520) - x_809.toInt).toNat < ((2520) - x_775.toInt).toNat; have ha := h_796; simp only [rg] at ha; omega)
      · skip
        have h_810 : rg (1) (1) r_804 := by have ha := hr_804; have hb_ := (rg_k (x := 0) (c := 0) (by decide)); simp only [rg, fa_lt, fa_le, fa_eq, (by decide : (0 : Int32).toInt = 0)] at ha hb_ c_807; simp only [rg]; omega
        refine lv_iload_n hx hb dX0_leaderOf_32 rfl (lv_at hl 0 rfl) ?_
        have hP9 := hP.sub (ws' := [(h0, .inr (0, [.ref h1, .ref h2, .ref h3, .ref h4, .ref h5, .ref h6, .int a0, .int x_805, .int a2, .int a3])), (h1, .inl (cI, 2520, .inl g0)), (h2, .inl (cI, 2520, .inl g1)), (h3, .inl (cI, 2520, .inl f_806)), (h6, .inl (cI, 9, .inl g5))]) [2, 3, 0, 4, 1] rfl
        have hD9 := hD.sub (ws' := [(h0, .inr (0, [.ref h1, .ref h2, .ref h3, .ref h4, .ref h5, .ref h6, .int a0, .int x_805, .int a2, .int a3])), (h1, .inl (cI, 2520, .inl g0)), (h2, .inl (cI, 2520, .inl g1)), (h3, .inl (cI, 2520, .inl f_806)), (h6, .inl (cI, 9, .inl g5))]) [2, 3, 0, 4, 1] (by decide) rfl
        exact W.iret (v := x_775) hx hb hr (fun t ht hW => ⟨⟨x_775, (), rfl, (rg_mono h_796 (by decide) (by decide)), ⟨x_805, f_806, (rg_mono hx_805 (by decide) (by decide)), by rw [ht]; exact hP9, hD9⟩⟩, hS.F ht⟩) hS.2.2 dX0_leaderOf_33
def v_s_J6_bitCount_0f7a4 : List Cond := Cond.code yJ6_bitCount_0f7a4 cJ6_bitCount_0f7a4 1 (some .int) :: ([Cond.constant RJ6 265 (1431655765), Cond.constant RJ6 266 (858993459), Cond.constant RJ6 267 (252645135)] ++ ([]))
theorem k_s_J6_bitCount_0f7a4 : GoodIn lw_tbl v_s_J6_bitCount_0f7a4 := gd_c (List.mem_of_getElem? (i := 879) (by decide +kernel)) rfl (goodIn_app (gd_c (List.mem_of_getElem? (i := 880) (by decide +kernel)) rfl (gd_c (List.mem_of_getElem? (i := 881) (by decide +kernel)) rfl (gd_c (List.mem_of_getElem? (i := 882) (by decide +kernel)) rfl (gd_nil)))) (gd_nil))
set_option maxHeartbeats 2000000 in
set_option maxRecDepth 100000 in
theorem c_s_J6_bitCount_0f7a4 (l : Launch) (dC : Nat → ClassId) (dI : Nat → Nat → Nat) (cB cI cJ cZ cP : ClassId) (p0 : Int32) (sz : Nat) : Met l yJ6_bitCount_0f7a4 v_s_J6_bitCount_0f7a4 ({ frames := 0, cells := 0, slots := 0, locals := 0 }) (va_Pc [.int p0] (fun U => U.heap.size = sz ∧ va_P (dC, dI) vwCl [] U.heap ∧ va_K (dC, dI) vwCl (ty5 cB cI cJ cZ cP) U ∧ va_D (fun _ => True) [])) (va_Qi (fun (r : Int32) (u9 : Unit) => rg (0) (63) r) (fun u9 t => va_P (dC, dI) vwCl [] t.heap ∧ va_D (va_A [] sz) []) (va_A [] sz)) 0 0 (va_A [] sz) := by
  refine Met.ofW (cc := cJ6_bitCount_0f7a4) (maxL := 1) (ret := (some .int)) (by decide) rfl ?_
  intro p e s m args below meth c s₁ B hml hv
  obtain ⟨rfl, hsz, hP, hK, hD0⟩ := hv
  have hx := B.exec
  have hb := B.bytes
  have hr := B.returns
  have hts := atoms_spec (ws := v_s_J6_bitCount_0f7a4) B.pre
  have hown : s.vm.findClass RJ6 = some m.cls := findClass_of_methodNamed B.named
  have hlocks := B.notSynchronized
  subst hsz
  have hD := hD0.self (sz := s.heap.size)
  generalize hAe : va_A [] s.heap.size = A at hD ⊢
  have hA : ∀ q : Nat, s.heap.size ≤ q → A q := fun q h => by rw [← hAe]; exact Or.inr h
  have hP : va_P (dC, dI) vwCl [] s.heap := hP
  have hl := lv_entry ([.int p0]) (n := 1) (Nat.le_of_ble_eq_true rfl)
  rw [lg_entry_eq]
  generalize (lg_sl ([.int p0]) ++ List.replicate (1 - (lg_sl ([.int p0])).length) Slot.unset).toArray = ls at hl ⊢
  have hl : lv_has ls 1 [(0, .int p0)] := hl
  refine W_gen (A := A) hP (fun H locs hP hS => ?_)
  refine lv_iload_n hx hb dJ6_bitCount_0f7a4_0 rfl (lv_at hl 0 rfl) ?_
  refine lv_iload_n hx hb dJ6_bitCount_0f7a4_1 rfl (lv_at hl 0 rfl) ?_
  refine lv_iconst (v := 1) hx hb dJ6_bitCount_0f7a4_2 (by decide) ?_
  refine lv_iushr hx hb dJ6_bitCount_0f7a4_3 rfl ?_
  refine lv_topi (fun x_1 ex_1 => ?_)
  have hx_1 : rg (0) (2147483647) x_1 := by rw [ex_1]; exact rg_mono (rg_ushr 1 (by decide) (by decide)) (by decide) (by decide)
  refine lv_ldcw (v := 1431655765) hx hb hown (hts (.constant RJ6 265 (1431655765)) (List.mem_of_getElem? (i := 1) rfl)) dJ6_bitCount_0f7a4_4 ?_
  refine lv_iand hx hb dJ6_bitCount_0f7a4_7 ?_
  refine lv_topi (fun x_2 ex_2 => ?_)
  have hx_2 : rg (0) (1431655765) x_2 := by rw [ex_2]; exact rg_mono (rg_andr (b := 1431655765) (rg_mono (rg_k (x := 1431655765) (c := 1431655765) (by decide)) (by decide) (by decide))) (by decide) (by decide)
  have kx_2_0 : rg 1 2147483647 x_2 → rg 1 (2147483647) x_1 := fun hq => rg_andP hx_1 (ex_2 ▸ hq)
  refine lv_isub hx hb dJ6_bitCount_0f7a4_8 ?_
  refine lv_topi (fun x_3 ex_3 => ?_)
  refine lv_istore_n (lv' := [(0, .int x_3)]) hx hb dJ6_bitCount_0f7a4_9 rfl hl (by decide) rfl (fun ls hl => ?_)
  refine lv_iload_n hx hb dJ6_bitCount_0f7a4_10 rfl (lv_at hl 0 rfl) ?_
  refine lv_ldcw (v := 858993459) hx hb hown (hts (.constant RJ6 266 (858993459)) (List.mem_of_getElem? (i := 2) rfl)) dJ6_bitCount_0f7a4_11 ?_
  refine lv_iand hx hb dJ6_bitCount_0f7a4_14 ?_
  refine lv_topi (fun x_4 ex_4 => ?_)
  have hx_4 : rg (0) (858993459) x_4 := by rw [ex_4]; exact rg_mono (rg_andr (b := 858993459) (rg_mono (rg_k (x := 858993459) (c := 858993459) (by decide)) (by decide) (by decide))) (by decide) (by decide)
  refine lv_iload_n hx hb dJ6_bitCount_0f7a4_15 rfl (lv_at hl 0 rfl) ?_
  refine lv_iconst (v := 2) hx hb dJ6_bitCount_0f7a4_16 (by decide) ?_
  refine lv_iushr hx hb dJ6_bitCount_0f7a4_17 rfl ?_
  refine lv_topi (fun x_5 ex_5 => ?_)
  have hx_5 : rg (0) (1073741823) x_5 := by rw [ex_5]; exact rg_mono (rg_ushr 2 (by decide) (by decide)) (by decide) (by decide)
  refine lv_ldcw (v := 858993459) hx hb hown (hts (.constant RJ6 266 (858993459)) (List.mem_of_getElem? (i := 2) rfl)) dJ6_bitCount_0f7a4_18 ?_
  refine lv_iand hx hb dJ6_bitCount_0f7a4_21 ?_
  refine lv_topi (fun x_6 ex_6 => ?_)
  have hx_6 : rg (0) (858993459) x_6 := by rw [ex_6]; exact rg_mono (rg_andr (b := 858993459) (rg_mono (rg_k (x := 858993459) (c := 858993459) (by decide)) (by decide) (by decide))) (by decide) (by decide)
  have kx_6_0 : rg 1 2147483647 x_6 → rg 1 (1073741823) x_5 := fun hq => rg_andP hx_5 (ex_6 ▸ hq)
  refine lv_iadd hx hb dJ6_bitCount_0f7a4_22 ?_
  refine lv_topi (fun x_7 ex_7 => ?_)
  have hx_7 : rg (0) (1717986918) x_7 := by rw [ex_7]; exact rg_mono (rg_add hx_4 hx_6 (by decide) (by decide)) (by decide) (by decide)
  have qx_7 : x_7.toInt = x_4.toInt + x_6.toInt := by rw [ex_7]; exact rg_addQ hx_4 hx_6 (by decide) (by decide)
  refine lv_istore_n (lv' := [(0, .int x_7)]) hx hb dJ6_bitCount_0f7a4_23 rfl hl (by decide) rfl (fun ls hl => ?_)
  refine lv_iload_n hx hb dJ6_bitCount_0f7a4_24 rfl (lv_at hl 0 rfl) ?_
  refine lv_iload_n hx hb dJ6_bitCount_0f7a4_25 rfl (lv_at hl 0 rfl) ?_
  refine lv_iconst (v := 4) hx hb dJ6_bitCount_0f7a4_26 (by decide) ?_
  refine lv_iushr hx hb dJ6_bitCount_0f7a4_27 rfl ?_
  refine lv_topi (fun x_8 ex_8 => ?_)
  have hx_8 : rg (0) (268435455) x_8 := by rw [ex_8]; exact rg_mono (rg_ushr 4 (by decide) (by decide)) (by decide) (by decide)
  refine lv_iadd hx hb dJ6_bitCount_0f7a4_28 ?_
  refine lv_topi (fun x_9 ex_9 => ?_)
  have hx_9 : rg (0) (1986422373) x_9 := by rw [ex_9]; exact rg_mono (rg_add hx_7 hx_8 (by decide) (by decide)) (by decide) (by decide)
  have qx_9 : x_9.toInt = x_7.toInt + x_8.toInt := by rw [ex_9]; exact rg_addQ hx_7 hx_8 (by decide) (by decide)
  refine lv_ldcw (v := 252645135) hx hb hown (hts (.constant RJ6 267 (252645135)) (List.mem_of_getElem? (i := 3) rfl)) dJ6_bitCount_0f7a4_29 ?_
  refine lv_iand hx hb dJ6_bitCount_0f7a4_32 ?_
  refine lv_topi (fun x_10 ex_10 => ?_)
  have hx_10 : rg (0) (252645135) x_10 := by rw [ex_10]; exact rg_mono (rg_andr (b := 252645135) (rg_mono (rg_k (x := 252645135) (c := 252645135) (by decide)) (by decide) (by decide))) (by decide) (by decide)
  have kx_10_0 : rg 1 2147483647 x_10 → rg 1 (1986422373) x_9 := fun hq => rg_andP hx_9 (ex_10 ▸ hq)
  refine lv_istore_n (lv' := [(0, .int x_10)]) hx hb dJ6_bitCount_0f7a4_33 rfl hl (by decide) rfl (fun ls hl => ?_)
  refine lv_iload_n hx hb dJ6_bitCount_0f7a4_34 rfl (lv_at hl 0 rfl) ?_
  refine lv_iload_n hx hb dJ6_bitCount_0f7a4_35 rfl (lv_at hl 0 rfl) ?_
  refine lv_bipush (v := 8) hx hb dJ6_bitCount_0f7a4_36 (by decide) ?_
  refine lv_iushr hx hb dJ6_bitCount_0f7a4_38 rfl ?_
  refine lv_topi (fun x_11 ex_11 => ?_)
  have hx_11 : rg (0) (16777215) x_11 := by rw [ex_11]; exact rg_mono (rg_ushr 8 (by decide) (by decide)) (by decide) (by decide)
  refine lv_iadd hx hb dJ6_bitCount_0f7a4_39 ?_
  refine lv_topi (fun x_12 ex_12 => ?_)
  have hx_12 : rg (0) (269422350) x_12 := by rw [ex_12]; exact rg_mono (rg_add hx_10 hx_11 (by decide) (by decide)) (by decide) (by decide)
  have qx_12 : x_12.toInt = x_10.toInt + x_11.toInt := by rw [ex_12]; exact rg_addQ hx_10 hx_11 (by decide) (by decide)
  refine lv_istore_n (lv' := [(0, .int x_12)]) hx hb dJ6_bitCount_0f7a4_40 rfl hl (by decide) rfl (fun ls hl => ?_)
  refine lv_iload_n hx hb dJ6_bitCount_0f7a4_41 rfl (lv_at hl 0 rfl) ?_
  refine lv_iload_n hx hb dJ6_bitCount_0f7a4_42 rfl (lv_at hl 0 rfl) ?_
  refine lv_bipush (v := 16) hx hb dJ6_bitCount_0f7a4_43 (by decide) ?_
  refine lv_iushr hx hb dJ6_bitCount_0f7a4_45 rfl ?_
  refine lv_topi (fun x_13 ex_13 => ?_)
  have hx_13 : rg (0) (65535) x_13 := by rw [ex_13]; exact rg_mono (rg_ushr 16 (by decide) (by decide)) (by decide) (by decide)
  refine lv_iadd hx hb dJ6_bitCount_0f7a4_46 ?_
  refine lv_topi (fun x_14 ex_14 => ?_)
  have hx_14 : rg (0) (269487885) x_14 := by rw [ex_14]; exact rg_mono (rg_add hx_12 hx_13 (by decide) (by decide)) (by decide) (by decide)
  have qx_14 : x_14.toInt = x_12.toInt + x_13.toInt := by rw [ex_14]; exact rg_addQ hx_12 hx_13 (by decide) (by decide)
  refine lv_istore_n (lv' := [(0, .int x_14)]) hx hb dJ6_bitCount_0f7a4_47 rfl hl (by decide) rfl (fun ls hl => ?_)
  refine lv_iload_n hx hb dJ6_bitCount_0f7a4_48 rfl (lv_at hl 0 rfl) ?_
  refine lv_bipush (v := 63) hx hb dJ6_bitCount_0f7a4_49 (by decide) ?_
  refine lv_iand hx hb dJ6_bitCount_0f7a4_51 ?_
  refine lv_topi (fun x_15 ex_15 => ?_)
  have hx_15 : rg (0) (63) x_15 := by rw [ex_15]; exact rg_mono (rg_andr (b := 63) (rg_mono (rg_k (x := 63) (c := 63) (by decide)) (by decide) (by decide))) (by decide) (by decide)
  have kx_15_0 : rg 1 2147483647 x_15 → rg 1 (269487885) x_14 := fun hq => rg_andP hx_14 (ex_15 ▸ hq)
  have hP9 := hP.sub (ws' := []) [] rfl
  have hD9 := hD.sub (ws' := []) [] (by decide) rfl
  exact W.iret (v := x_15) hx hb hr (fun t ht hW => ⟨⟨x_15, (), rfl, (rg_mono hx_15 (by decide) (by decide)), ⟨by rw [ht]; exact hP9, hD9⟩⟩, hS.F ht⟩) hS.2.2 dJ6_bitCount_0f7a4_52
def v_s_X3_add : List Cond := Cond.code yX3_add cX3_add 2 none :: ([Cond.fieldLink RX3 15 "MayRings$Order" "size" "I", Cond.fieldLink RX3 9 "MayRings$Order" "houses" "[I"] ++ (wsX30 ++ ([])))
theorem k_s_X3_add : GoodIn lw_tbl v_s_X3_add := gd_c (List.mem_of_getElem? (i := 860) (by decide +kernel)) rfl (goodIn_app (gd_c (List.mem_of_getElem? (i := 363) (by decide +kernel)) rfl (gd_c (List.mem_of_getElem? (i := 360) (by decide +kernel)) rfl (gd_nil))) (goodIn_app kfX3 (gd_nil)))
set_option maxHeartbeats 2000000 in
set_option maxRecDepth 100000 in
theorem c_s_X3_add (l : Launch) (dC : Nat → ClassId) (dI : Nat → Nat → Nat) (cB cI cJ cZ cP : ClassId) (h0 : Nat) (h1 : Nat) (g0 : Nat → Int32) (hg0 : rgA (0) (8) g0) (a0 : Int32) (ha0 : rg (-1) (9) a0) (p0 : Int32) (hp0 : rg (0) (8) p0) (sz : Nat) : Met l yX3_add v_s_X3_add ({ frames := 0, cells := 0, slots := 0, locals := 0 }) (va_Pc [.ref h0, .int p0] (fun U => U.heap.size = sz ∧ va_P (dC, dI) vwCl [(h0, .inr (3, [.ref h1, .int a0])), (h1, .inl (cI, 9, .inl g0))] U.heap ∧ va_K (dC, dI) vwCl (ty5 cB cI cJ cZ cP) U ∧ va_D (fun _ => True) [(h0, .inr (3, [.ref h1, .int a0])), (h1, .inl (cI, 9, .inl g0))])) (va_Qv (fun _ : Unit => True) (fun _ t => ∃ (z0 : Int32) (z1 : Nat → Int32), rg (-1) (9) z0 ∧ rgA (0) (8) z1 ∧ va_P (dC, dI) vwCl [(h0, .inr (3, [.ref h1, .int z0])), (h1, .inl (cI, 9, .inl z1))] t.heap ∧ va_D (va_A [(h0, .inr (3, [.ref h1, .int a0])), (h1, .inl (cI, 9, .inl g0))] sz) [(h0, .inr (3, [.ref h1, .int z0])), (h1, .inl (cI, 9, .inl z1))]) (va_A [(h0, .inr (3, [.ref h1, .int a0])), (h1, .inl (cI, 9, .inl g0))] sz)) 0 0 (va_A [(h0, .inr (3, [.ref h1, .int a0])), (h1, .inl (cI, 9, .inl g0))] sz) := by
  refine Met.ofW (cc := cX3_add) (maxL := 2) (ret := none) (by decide) rfl ?_
  intro p e s m args below meth c s₁ B hml hv
  obtain ⟨rfl, hsz, hP, hK, hD0⟩ := hv
  have hx := B.exec
  have hb := B.bytes
  have hr := B.returns
  have hts := atoms_spec (ws := v_s_X3_add) B.pre
  have hown : s.vm.findClass RX3 = some m.cls := findClass_of_methodNamed B.named
  have hlocks := B.notSynchronized
  have hinX3 : ∀ w ∈ wsX30, w ∈ v_s_X3_add := fun _ h => List.mem_cons_of_mem _ (List.mem_append_right _ (List.mem_append_left _ h))
  subst hsz
  have hD := hD0.self (sz := s.heap.size)
  generalize hAe : va_A [(h0, .inr (3, [.ref h1, .int a0])), (h1, .inl (cI, 9, .inl g0))] s.heap.size = A at hD ⊢
  have hA : ∀ q : Nat, s.heap.size ≤ q → A q := fun q h => by rw [← hAe]; exact Or.inr h
  have hP : va_P (dC, dI) vwCl [(h0, .inr (3, [.ref h1, .int a0])), (h1, .inl (cI, 9, .inl g0))] s.heap := hP
  have hl := lv_entry ([.ref h0, .int p0]) (n := 2) (Nat.le_of_ble_eq_true rfl)
  rw [lg_entry_eq]
  generalize (lg_sl ([.ref h0, .int p0]) ++ List.replicate (2 - (lg_sl ([.ref h0, .int p0])).length) Slot.unset).toArray = ls at hl ⊢
  have hl : lv_has ls 2 [(0, .ref h0), (1, .int p0)] := hl
  refine W_gen (A := A) hP (fun H locs hP hS => ?_)
  refine lv_aload_n hx hb dX3_add_0 rfl (lv_at hl 0 rfl) ?_
  refine va_get (D := (dC, dI)) (ci := 3) (v := .int a0) (C := RX3) (T := TX3) (N := 2) hx hb hts hinX3 hown hK hP 0 rfl rfl 1 (by decide) (hts (.fieldLink RX3 15 "MayRings$Order" "size" "I") (List.mem_of_getElem? (i := 1) rfl)) (fun _ h9 => h9) rfl dX3_add_1 ?_
  refine lv_if_lt (tgt := 36) hx hb dX3_add_4 (by decide) (fun c_1 => ?_) (fun c_1 => ?_)
  · skip
    have h_2 : rg (-1) (-1) a0 := by have ha := ha0; have hb_ := (rg_k (x := 0) (c := 0) (by decide)); simp only [rg, fa_lt, fa_le, fa_eq, (by decide : (0 : Int32).toInt = 0)] at ha hb_ c_1; simp only [rg]; omega
    have hP9 := hP.sub (ws' := [(h0, .inr (3, [.ref h1, .int a0])), (h1, .inl (cI, 9, .inl g0))]) [0, 1] rfl
    have hD9 := hD.sub (ws' := [(h0, .inr (3, [.ref h1, .int a0])), (h1, .inl (cI, 9, .inl g0))]) [0, 1] (by decide) rfl
    exact W.vret hx hb hr (fun t ht hW => ⟨⟨(), rfl, trivial, ⟨a0, g0, (rg_mono h_2 (by decide) (by decide)), hg0, by rw [ht]; exact hP9, hD9⟩⟩, hS.F ht⟩) hS.2.2 dX3_add_36
  · skip
    have h_3 : rg (0) (9) a0 := by have ha := ha0; have hb_ := (rg_k (x := 0) (c := 0) (by decide)); simp only [rg, fa_lt, fa_le, fa_eq, (by decide : (0 : Int32).toInt = 0)] at ha hb_ c_1; simp only [rg]; omega
    refine lv_aload_n hx hb dX3_add_7 rfl (lv_at hl 0 rfl) ?_
    refine va_get (D := (dC, dI)) (ci := 3) (v := .int a0) (C := RX3) (T := TX3) (N := 2) hx hb hts hinX3 hown hK hP 0 rfl rfl 1 (by decide) (hts (.fieldLink RX3 15 "MayRings$Order" "size" "I") (List.mem_of_getElem? (i := 1) rfl)) (fun _ h9 => h9) rfl dX3_add_8 ?_
    refine lv_bipush (v := 9) hx hb dX3_add_11 (by decide) ?_
    refine lv_icmp_ge (tgt := 36) hx hb dX3_add_13 (by decide) (fun c_4 => ?_) (fun c_4 => ?_)
    · skip
      have h_5 : rg (9) (9) a0 := by have ha := h_3; have hb_ := (rg_k (x := 9) (c := 9) (by decide)); simp only [rg, fa_lt, fa_le, fa_eq, (by decide : (9 : Int32).toInt = 9)] at ha hb_ c_4; simp only [rg]; omega
      have hP9 := hP.sub (ws' := [(h0, .inr (3, [.ref h1, .int a0])), (h1, .inl (cI, 9, .inl g0))]) [0, 1] rfl
      have hD9 := hD.sub (ws' := [(h0, .inr (3, [.ref h1, .int a0])), (h1, .inl (cI, 9, .inl g0))]) [0, 1] (by decide) rfl
      exact W.vret hx hb hr (fun t ht hW => ⟨⟨(), rfl, trivial, ⟨a0, g0, (rg_mono h_5 (by decide) (by decide)), hg0, by rw [ht]; exact hP9, hD9⟩⟩, hS.F ht⟩) hS.2.2 dX3_add_36
    · skip
      have h_6 : rg (0) (8) a0 := by have ha := h_3; have hb_ := (rg_k (x := 9) (c := 9) (by decide)); simp only [rg, fa_lt, fa_le, fa_eq, (by decide : (9 : Int32).toInt = 9)] at ha hb_ c_4; simp only [rg]; omega
      refine lv_aload_n hx hb dX3_add_16 rfl (lv_at hl 0 rfl) ?_
      refine va_get (D := (dC, dI)) (ci := 3) (v := .ref h1) (C := RX3) (T := TX3) (N := 2) hx hb hts hinX3 hown hK hP 0 rfl rfl 0 (by decide) (hts (.fieldLink RX3 9 "MayRings$Order" "houses" "[I") (List.mem_of_getElem? (i := 2) rfl)) (fun _ h9 => h9) rfl dX3_add_17 ?_
      refine lv_aload_n hx hb dX3_add_20 rfl (lv_at hl 0 rfl) ?_
      refine va_get (D := (dC, dI)) (ci := 3) (v := .int a0) (C := RX3) (T := TX3) (N := 2) hx hb hts hinX3 hown hK hP 0 rfl rfl 1 (by decide) (hts (.fieldLink RX3 15 "MayRings$Order" "size" "I") (List.mem_of_getElem? (i := 1) rfl)) (fun _ h9 => h9) rfl dX3_add_21 ?_
      refine lv_iload_n hx hb dX3_add_24 rfl (lv_at hl 1 rfl) ?_
      refine va_iast hx hb hK hP hD hS 1 1 rfl rfl (rg_in (n := 9) (rg_mono h_6 (by decide) (by decide))) dX3_add_25 (fun H locs hP hD hS => ?_)
      obtain ⟨f_7, ef_7⟩ : ∃ f : Nat → Int32, f = upd g0 (a0 : Int32).toNatClampNeg p0 := ⟨_, rfl⟩
      rw [← ef_7] at hP hD
      have hf_7 : rgA (0) (8) f_7 := by rw [ef_7]; exact rgA_upd hg0 (rg_mono hp0 (by decide) (by decide))
      clear ef_7
      have hP : va_P (dC, dI) vwCl [(h0, .inr (3, [.ref h1, .int a0])), (h1, .inl (cI, 9, .inl f_7))] H := hP
      have hD : va_D A [(h0, .inr (3, [.ref h1, .int a0])), (h1, .inl (cI, 9, .inl f_7))] := hD
      refine lv_aload_n hx hb dX3_add_26 rfl (lv_at hl 0 rfl) ?_
      refine lv_dup hx hb dX3_add_27 rfl ?_
      refine va_get (D := (dC, dI)) (ci := 3) (v := .int a0) (C := RX3) (T := TX3) (N := 2) hx hb hts hinX3 hown hK hP 0 rfl rfl 1 (by decide) (hts (.fieldLink RX3 15 "MayRings$Order" "size" "I") (List.mem_of_getElem? (i := 1) rfl)) (fun _ h9 => h9) rfl dX3_add_28 ?_
      refine lv_iconst (v := 1) hx hb dX3_add_31 (by decide) ?_
      refine lv_iadd hx hb dX3_add_32 ?_
      refine lv_topi (fun x_8 ex_8 => ?_)
      have hx_8 : rg (1) (9) x_8 := by rw [ex_8]; exact rg_mono (rg_add h_6 (rg_k (x := 1) (c := 1) (by decide)) (by decide) (by decide)) (by decide) (by decide)
      have qx_8 : x_8.toInt = a0.toInt + (1) := by rw [ex_8]; exact rg_addE h_6 (rg_k (x := 1) (c := 1) (by decide)) (by decide) (by decide) trivial
      refine va_put (D := (dC, dI)) (ci := 3) (v := .int x_8) (ty := .int) (C := RX3) (T := TX3) (N := 2) hx hb hts hinX3 tyX3 tyX3_ok nmX3 hown hK hP hD hS 0 rfl rfl 1 (by decide) (hts (.fieldLink RX3 15 "MayRings$Order" "size" "I") (List.mem_of_getElem? (i := 1) rfl)) (fun _ h9 => h9) rfl (by decide +kernel) (rfl) (rfl) (Nat.le_of_ble_eq_true rfl) dX3_add_33 (fun H locs hP hD hS => ?_)
      have hP : va_P (dC, dI) vwCl [(h0, .inr (3, [.ref h1, .int x_8])), (h1, .inl (cI, 9, .inl f_7))] H := hP
      have hD : va_D A [(h0, .inr (3, [.ref h1, .int x_8])), (h1, .inl (cI, 9, .inl f_7))] := hD
      have hP9 := hP.sub (ws' := [(h0, .inr (3, [.ref h1, .int x_8])), (h1, .inl (cI, 9, .inl f_7))]) [0, 1] rfl
      have hD9 := hD.sub (ws' := [(h0, .inr (3, [.ref h1, .int x_8])), (h1, .inl (cI, 9, .inl f_7))]) [0, 1] (by decide) rfl
      exact W.vret hx hb hr (fun t ht hW => ⟨⟨(), rfl, trivial, ⟨x_8, f_7, (rg_mono hx_8 (by decide) (by decide)), hf_7, by rw [ht]; exact hP9, hD9⟩⟩, hS.F ht⟩) hS.2.2 dX3_add_36
def v_s_X1_open : List Cond := Cond.code yX1_open cX1_open 1 none :: ([Cond.fieldLink RX1 21 "MayRings$Law" "length" "I", Cond.fieldLink RX1 28 "MayRings$Law" "units" "I"] ++ (wsX10 ++ ([])))
theorem k_s_X1_open : GoodIn lw_tbl v_s_X1_open := gd_c (List.mem_of_getElem? (i := 690) (by decide +kernel)) rfl (goodIn_app (gd_c (List.mem_of_getElem? (i := 186) (by decide +kernel)) rfl (gd_c (List.mem_of_getElem? (i := 188) (by decide +kernel)) rfl (gd_nil))) (goodIn_app kfX1 (gd_nil)))
set_option maxHeartbeats 2000000 in
set_option maxRecDepth 100000 in
theorem c_s_X1_open (l : Launch) (dC : Nat → ClassId) (dI : Nat → Nat → Nat) (cB cI cJ cZ cP : ClassId) (h0 : Nat) (h1 : Nat) (h2 : Nat) (h3 : Nat) (a0 : Int32) (a1 : Int32) (a2 : Int32) (sz : Nat) : Met l yX1_open v_s_X1_open ({ frames := 0, cells := 0, slots := 0, locals := 0 }) (va_Pc [.ref h0] (fun U => U.heap.size = sz ∧ va_P (dC, dI) vwCl [(h0, .inr (1, [.ref h1, .ref h2, .ref h3, .int a0, .int a1, .int a2]))] U.heap ∧ va_K (dC, dI) vwCl (ty5 cB cI cJ cZ cP) U ∧ va_D (fun _ => True) [(h0, .inr (1, [.ref h1, .ref h2, .ref h3, .int a0, .int a1, .int a2]))])) (va_Qv (fun _ : Unit => True) (fun _ t => va_P (dC, dI) vwCl [(h0, .inr (1, [.ref h1, .ref h2, .ref h3, .int 0, .int a1, .int 0]))] t.heap ∧ va_D (va_A [(h0, .inr (1, [.ref h1, .ref h2, .ref h3, .int a0, .int a1, .int a2]))] sz) [(h0, .inr (1, [.ref h1, .ref h2, .ref h3, .int 0, .int a1, .int 0]))]) (va_A [(h0, .inr (1, [.ref h1, .ref h2, .ref h3, .int a0, .int a1, .int a2]))] sz)) 0 0 (va_A [(h0, .inr (1, [.ref h1, .ref h2, .ref h3, .int a0, .int a1, .int a2]))] sz) := by
  refine Met.ofW (cc := cX1_open) (maxL := 1) (ret := none) (by decide) rfl ?_
  intro p e s m args below meth c s₁ B hml hv
  obtain ⟨rfl, hsz, hP, hK, hD0⟩ := hv
  have hx := B.exec
  have hb := B.bytes
  have hr := B.returns
  have hts := atoms_spec (ws := v_s_X1_open) B.pre
  have hown : s.vm.findClass RX1 = some m.cls := findClass_of_methodNamed B.named
  have hlocks := B.notSynchronized
  have hinX1 : ∀ w ∈ wsX10, w ∈ v_s_X1_open := fun _ h => List.mem_cons_of_mem _ (List.mem_append_right _ (List.mem_append_left _ h))
  subst hsz
  have hD := hD0.self (sz := s.heap.size)
  generalize hAe : va_A [(h0, .inr (1, [.ref h1, .ref h2, .ref h3, .int a0, .int a1, .int a2]))] s.heap.size = A at hD ⊢
  have hA : ∀ q : Nat, s.heap.size ≤ q → A q := fun q h => by rw [← hAe]; exact Or.inr h
  have hP : va_P (dC, dI) vwCl [(h0, .inr (1, [.ref h1, .ref h2, .ref h3, .int a0, .int a1, .int a2]))] s.heap := hP
  have hl := lv_entry ([.ref h0]) (n := 1) (Nat.le_of_ble_eq_true rfl)
  rw [lg_entry_eq]
  generalize (lg_sl ([.ref h0]) ++ List.replicate (1 - (lg_sl ([.ref h0])).length) Slot.unset).toArray = ls at hl ⊢
  have hl : lv_has ls 1 [(0, .ref h0)] := hl
  refine W_gen (A := A) hP (fun H locs hP hS => ?_)
  refine lv_aload_n hx hb dX1_open_0 rfl (lv_at hl 0 rfl) ?_
  refine lv_iconst (v := 0) hx hb dX1_open_1 (by decide) ?_
  refine va_put (D := (dC, dI)) (ci := 1) (v := .int 0) (ty := .int) (C := RX1) (T := TX1) (N := 6) hx hb hts hinX1 tyX1 tyX1_ok nmX1 hown hK hP hD hS 0 rfl rfl 3 (by decide) (hts (.fieldLink RX1 21 "MayRings$Law" "length" "I") (List.mem_of_getElem? (i := 1) rfl)) (fun _ h9 => h9) rfl (by decide +kernel) (rfl) (rfl) (Nat.le_of_ble_eq_true rfl) dX1_open_2 (fun H locs hP hD hS => ?_)
  have hP : va_P (dC, dI) vwCl [(h0, .inr (1, [.ref h1, .ref h2, .ref h3, .int 0, .int a1, .int a2]))] H := hP
  have hD : va_D A [(h0, .inr (1, [.ref h1, .ref h2, .ref h3, .int 0, .int a1, .int a2]))] := hD
  refine lv_aload_n hx hb dX1_open_5 rfl (lv_at hl 0 rfl) ?_
  refine lv_iconst (v := 0) hx hb dX1_open_6 (by decide) ?_
  refine va_put (D := (dC, dI)) (ci := 1) (v := .int 0) (ty := .int) (C := RX1) (T := TX1) (N := 6) hx hb hts hinX1 tyX1 tyX1_ok nmX1 hown hK hP hD hS 0 rfl rfl 5 (by decide) (hts (.fieldLink RX1 28 "MayRings$Law" "units" "I") (List.mem_of_getElem? (i := 2) rfl)) (fun _ h9 => h9) rfl (by decide +kernel) (rfl) (rfl) (Nat.le_of_ble_eq_true rfl) dX1_open_7 (fun H locs hP hD hS => ?_)
  have hP : va_P (dC, dI) vwCl [(h0, .inr (1, [.ref h1, .ref h2, .ref h3, .int 0, .int a1, .int 0]))] H := hP
  have hD : va_D A [(h0, .inr (1, [.ref h1, .ref h2, .ref h3, .int 0, .int a1, .int 0]))] := hD
  have hP9 := hP.sub (ws' := [(h0, .inr (1, [.ref h1, .ref h2, .ref h3, .int 0, .int a1, .int 0]))]) [0] rfl
  have hD9 := hD.sub (ws' := [(h0, .inr (1, [.ref h1, .ref h2, .ref h3, .int 0, .int a1, .int 0]))]) [0] (by decide) rfl
  exact W.vret hx hb hr (fun t ht hW => ⟨⟨(), rfl, trivial, ⟨by rw [ht]; exact hP9, hD9⟩⟩, hS.F ht⟩) hS.2.2 dX1_open_10
def v_s_X1_put : List Cond := Cond.code yX1_put cX1_put 2 none :: ([Cond.fieldLink RX1 21 "MayRings$Law" "length" "I", Cond.fieldLink RX1 11 "MayRings$Law" "codes" "[I"] ++ (wsX10 ++ ([])))
theorem k_s_X1_put : GoodIn lw_tbl v_s_X1_put := gd_c (List.mem_of_getElem? (i := 182) (by decide +kernel)) rfl (goodIn_app (gd_c (List.mem_of_getElem? (i := 186) (by decide +kernel)) rfl (gd_c (List.mem_of_getElem? (i := 183) (by decide +kernel)) rfl (gd_nil))) (goodIn_app kfX1 (gd_nil)))
set_option maxHeartbeats 2000000 in
set_option maxRecDepth 100000 in
theorem c_s_X1_put (l : Launch) (dC : Nat → ClassId) (dI : Nat → Nat → Nat) (cB cI cJ cZ cP : ClassId) (h0 : Nat) (h1 : Nat) (g0 : Nat → Int32) (h2 : Nat) (h3 : Nat) (a0 : Int32) (ha0 : rg (0) (360) a0) (a1 : Int32) (a2 : Int32) (p0 : Int32) (sz : Nat) : Met l yX1_put v_s_X1_put ({ frames := 0, cells := 0, slots := 0, locals := 0 }) (va_Pc [.ref h0, .int p0] (fun U => U.heap.size = sz ∧ va_P (dC, dI) vwCl [(h0, .inr (1, [.ref h1, .ref h2, .ref h3, .int a0, .int a1, .int a2])), (h1, .inl (cI, 360, .inl g0))] U.heap ∧ va_K (dC, dI) vwCl (ty5 cB cI cJ cZ cP) U ∧ va_D (fun _ => True) [(h0, .inr (1, [.ref h1, .ref h2, .ref h3, .int a0, .int a1, .int a2])), (h1, .inl (cI, 360, .inl g0))])) (va_Qv (fun _ : Unit => True) (fun _ t => ∃ (z0 : Int32) (z1 : Nat → Int32), rg (0) (360) z0 ∧ va_P (dC, dI) vwCl [(h0, .inr (1, [.ref h1, .ref h2, .ref h3, .int z0, .int a1, .int a2])), (h1, .inl (cI, 360, .inl z1))] t.heap ∧ va_D (va_A [(h0, .inr (1, [.ref h1, .ref h2, .ref h3, .int a0, .int a1, .int a2])), (h1, .inl (cI, 360, .inl g0))] sz) [(h0, .inr (1, [.ref h1, .ref h2, .ref h3, .int z0, .int a1, .int a2])), (h1, .inl (cI, 360, .inl z1))]) (va_A [(h0, .inr (1, [.ref h1, .ref h2, .ref h3, .int a0, .int a1, .int a2])), (h1, .inl (cI, 360, .inl g0))] sz)) 0 0 (va_A [(h0, .inr (1, [.ref h1, .ref h2, .ref h3, .int a0, .int a1, .int a2])), (h1, .inl (cI, 360, .inl g0))] sz) := by
  refine Met.ofW (cc := cX1_put) (maxL := 2) (ret := none) (by decide) rfl ?_
  intro p e s m args below meth c s₁ B hml hv
  obtain ⟨rfl, hsz, hP, hK, hD0⟩ := hv
  have hx := B.exec
  have hb := B.bytes
  have hr := B.returns
  have hts := atoms_spec (ws := v_s_X1_put) B.pre
  have hown : s.vm.findClass RX1 = some m.cls := findClass_of_methodNamed B.named
  have hlocks := B.notSynchronized
  have hinX1 : ∀ w ∈ wsX10, w ∈ v_s_X1_put := fun _ h => List.mem_cons_of_mem _ (List.mem_append_right _ (List.mem_append_left _ h))
  subst hsz
  have hD := hD0.self (sz := s.heap.size)
  generalize hAe : va_A [(h0, .inr (1, [.ref h1, .ref h2, .ref h3, .int a0, .int a1, .int a2])), (h1, .inl (cI, 360, .inl g0))] s.heap.size = A at hD ⊢
  have hA : ∀ q : Nat, s.heap.size ≤ q → A q := fun q h => by rw [← hAe]; exact Or.inr h
  have hP : va_P (dC, dI) vwCl [(h0, .inr (1, [.ref h1, .ref h2, .ref h3, .int a0, .int a1, .int a2])), (h1, .inl (cI, 360, .inl g0))] s.heap := hP
  have hl := lv_entry ([.ref h0, .int p0]) (n := 2) (Nat.le_of_ble_eq_true rfl)
  rw [lg_entry_eq]
  generalize (lg_sl ([.ref h0, .int p0]) ++ List.replicate (2 - (lg_sl ([.ref h0, .int p0])).length) Slot.unset).toArray = ls at hl ⊢
  have hl : lv_has ls 2 [(0, .ref h0), (1, .int p0)] := hl
  refine W_gen (A := A) hP (fun H locs hP hS => ?_)
  refine lv_aload_n hx hb dX1_put_0 rfl (lv_at hl 0 rfl) ?_
  refine va_get (D := (dC, dI)) (ci := 1) (v := .int a0) (C := RX1) (T := TX1) (N := 6) hx hb hts hinX1 hown hK hP 0 rfl rfl 3 (by decide) (hts (.fieldLink RX1 21 "MayRings$Law" "length" "I") (List.mem_of_getElem? (i := 1) rfl)) (fun _ h9 => h9) rfl dX1_put_1 ?_
  refine lv_sipush (v := 360) hx hb dX1_put_4 (by decide) ?_
  refine lv_icmp_ge (tgt := 30) hx hb dX1_put_7 (by decide) (fun c_1 => ?_) (fun c_1 => ?_)
  · skip
    have h_2 : rg (360) (360) a0 := by have ha := ha0; have hb_ := (rg_k (x := 360) (c := 360) (by decide)); simp only [rg, fa_lt, fa_le, fa_eq, (by decide : (360 : Int32).toInt = 360)] at ha hb_ c_1; simp only [rg]; omega
    have hP9 := hP.sub (ws' := [(h0, .inr (1, [.ref h1, .ref h2, .ref h3, .int a0, .int a1, .int a2])), (h1, .inl (cI, 360, .inl g0))]) [0, 1] rfl
    have hD9 := hD.sub (ws' := [(h0, .inr (1, [.ref h1, .ref h2, .ref h3, .int a0, .int a1, .int a2])), (h1, .inl (cI, 360, .inl g0))]) [0, 1] (by decide) rfl
    exact W.vret hx hb hr (fun t ht hW => ⟨⟨(), rfl, trivial, ⟨a0, g0, (rg_mono h_2 (by decide) (by decide)), by rw [ht]; exact hP9, hD9⟩⟩, hS.F ht⟩) hS.2.2 dX1_put_30
  · skip
    have h_3 : rg (0) (359) a0 := by have ha := ha0; have hb_ := (rg_k (x := 360) (c := 360) (by decide)); simp only [rg, fa_lt, fa_le, fa_eq, (by decide : (360 : Int32).toInt = 360)] at ha hb_ c_1; simp only [rg]; omega
    refine lv_aload_n hx hb dX1_put_10 rfl (lv_at hl 0 rfl) ?_
    refine va_get (D := (dC, dI)) (ci := 1) (v := .ref h1) (C := RX1) (T := TX1) (N := 6) hx hb hts hinX1 hown hK hP 0 rfl rfl 0 (by decide) (hts (.fieldLink RX1 11 "MayRings$Law" "codes" "[I") (List.mem_of_getElem? (i := 2) rfl)) (fun _ h9 => h9) rfl dX1_put_11 ?_
    refine lv_aload_n hx hb dX1_put_14 rfl (lv_at hl 0 rfl) ?_
    refine va_get (D := (dC, dI)) (ci := 1) (v := .int a0) (C := RX1) (T := TX1) (N := 6) hx hb hts hinX1 hown hK hP 0 rfl rfl 3 (by decide) (hts (.fieldLink RX1 21 "MayRings$Law" "length" "I") (List.mem_of_getElem? (i := 1) rfl)) (fun _ h9 => h9) rfl dX1_put_15 ?_
    refine lv_iload_n hx hb dX1_put_18 rfl (lv_at hl 1 rfl) ?_
    refine va_iast hx hb hK hP hD hS 1 1 rfl rfl (rg_in (n := 360) (rg_mono h_3 (by decide) (by decide))) dX1_put_19 (fun H locs hP hD hS => ?_)
    obtain ⟨f_4, ef_4⟩ : ∃ f : Nat → Int32, f = upd g0 (a0 : Int32).toNatClampNeg p0 := ⟨_, rfl⟩
    rw [← ef_4] at hP hD
    clear ef_4
    have hP : va_P (dC, dI) vwCl [(h0, .inr (1, [.ref h1, .ref h2, .ref h3, .int a0, .int a1, .int a2])), (h1, .inl (cI, 360, .inl f_4))] H := hP
    have hD : va_D A [(h0, .inr (1, [.ref h1, .ref h2, .ref h3, .int a0, .int a1, .int a2])), (h1, .inl (cI, 360, .inl f_4))] := hD
    refine lv_aload_n hx hb dX1_put_20 rfl (lv_at hl 0 rfl) ?_
    refine lv_dup hx hb dX1_put_21 rfl ?_
    refine va_get (D := (dC, dI)) (ci := 1) (v := .int a0) (C := RX1) (T := TX1) (N := 6) hx hb hts hinX1 hown hK hP 0 rfl rfl 3 (by decide) (hts (.fieldLink RX1 21 "MayRings$Law" "length" "I") (List.mem_of_getElem? (i := 1) rfl)) (fun _ h9 => h9) rfl dX1_put_22 ?_
    refine lv_iconst (v := 1) hx hb dX1_put_25 (by decide) ?_
    refine lv_iadd hx hb dX1_put_26 ?_
    refine lv_topi (fun x_5 ex_5 => ?_)
    have hx_5 : rg (1) (360) x_5 := by rw [ex_5]; exact rg_mono (rg_add h_3 (rg_k (x := 1) (c := 1) (by decide)) (by decide) (by decide)) (by decide) (by decide)
    have qx_5 : x_5.toInt = a0.toInt + (1) := by rw [ex_5]; exact rg_addE h_3 (rg_k (x := 1) (c := 1) (by decide)) (by decide) (by decide) trivial
    refine va_put (D := (dC, dI)) (ci := 1) (v := .int x_5) (ty := .int) (C := RX1) (T := TX1) (N := 6) hx hb hts hinX1 tyX1 tyX1_ok nmX1 hown hK hP hD hS 0 rfl rfl 3 (by decide) (hts (.fieldLink RX1 21 "MayRings$Law" "length" "I") (List.mem_of_getElem? (i := 1) rfl)) (fun _ h9 => h9) rfl (by decide +kernel) (rfl) (rfl) (Nat.le_of_ble_eq_true rfl) dX1_put_27 (fun H locs hP hD hS => ?_)
    have hP : va_P (dC, dI) vwCl [(h0, .inr (1, [.ref h1, .ref h2, .ref h3, .int x_5, .int a1, .int a2])), (h1, .inl (cI, 360, .inl f_4))] H := hP
    have hD : va_D A [(h0, .inr (1, [.ref h1, .ref h2, .ref h3, .int x_5, .int a1, .int a2])), (h1, .inl (cI, 360, .inl f_4))] := hD
    have hP9 := hP.sub (ws' := [(h0, .inr (1, [.ref h1, .ref h2, .ref h3, .int x_5, .int a1, .int a2])), (h1, .inl (cI, 360, .inl f_4))]) [0, 1] rfl
    have hD9 := hD.sub (ws' := [(h0, .inr (1, [.ref h1, .ref h2, .ref h3, .int x_5, .int a1, .int a2])), (h1, .inl (cI, 360, .inl f_4))]) [0, 1] (by decide) rfl
    exact W.vret hx hb hr (fun t ht hW => ⟨⟨(), rfl, trivial, ⟨x_5, f_4, (rg_mono hx_5 (by decide) (by decide)), by rw [ht]; exact hP9, hD9⟩⟩, hS.F ht⟩) hS.2.2 dX1_put_30
def v_s_X1_putSinceNever : List Cond := Cond.code yX1_putSinceNever cX1_putSinceNever 1 none :: ([Cond.methodLink RX1 34 yX1_put, Cond.instanceMethod yX1_put, Cond.selects RX1 yX1_put yX1_put, Cond.initialized RX1] ++ (v_s_X1_put ++ ([])))
theorem k_s_X1_putSinceNever : GoodIn lw_tbl v_s_X1_putSinceNever := gd_c (List.mem_of_getElem? (i := 178) (by decide +kernel)) rfl (goodIn_app (gd_c (List.mem_of_getElem? (i := 179) (by decide +kernel)) rfl (gd_c (List.mem_of_getElem? (i := 180) (by decide +kernel)) rfl (gd_c (List.mem_of_getElem? (i := 181) (by decide +kernel)) rfl (gd_c (List.mem_of_getElem? (i := 133) (by decide +kernel)) rfl (gd_nil))))) (goodIn_app k_s_X1_put (gd_nil)))
set_option maxHeartbeats 2000000 in
set_option maxRecDepth 100000 in
theorem c_s_X1_putSinceNever (l : Launch) (dC : Nat → ClassId) (dI : Nat → Nat → Nat) (cB cI cJ cZ cP : ClassId) (h0 : Nat) (h1 : Nat) (g0 : Nat → Int32) (h2 : Nat) (h3 : Nat) (a0 : Int32) (ha0 : rg (0) (360) a0) (a1 : Int32) (a2 : Int32) (sz : Nat) : Met l yX1_putSinceNever v_s_X1_putSinceNever ({ frames := 1, cells := 0, slots := 0, locals := 21 }) (va_Pc [.ref h0] (fun U => U.heap.size = sz ∧ va_P (dC, dI) vwCl [(h0, .inr (1, [.ref h1, .ref h2, .ref h3, .int a0, .int a1, .int a2])), (h1, .inl (cI, 360, .inl g0))] U.heap ∧ va_K (dC, dI) vwCl (ty5 cB cI cJ cZ cP) U ∧ va_D (fun _ => True) [(h0, .inr (1, [.ref h1, .ref h2, .ref h3, .int a0, .int a1, .int a2])), (h1, .inl (cI, 360, .inl g0))])) (va_Qv (fun _ : Unit => True) (fun _ t => ∃ (z0 : Int32) (z1 : Nat → Int32), rg (0) (360) z0 ∧ va_P (dC, dI) vwCl [(h0, .inr (1, [.ref h1, .ref h2, .ref h3, .int z0, .int a1, .int a2])), (h1, .inl (cI, 360, .inl z1))] t.heap ∧ va_D (va_A [(h0, .inr (1, [.ref h1, .ref h2, .ref h3, .int a0, .int a1, .int a2])), (h1, .inl (cI, 360, .inl g0))] sz) [(h0, .inr (1, [.ref h1, .ref h2, .ref h3, .int z0, .int a1, .int a2])), (h1, .inl (cI, 360, .inl z1))]) (va_A [(h0, .inr (1, [.ref h1, .ref h2, .ref h3, .int a0, .int a1, .int a2])), (h1, .inl (cI, 360, .inl g0))] sz)) 0 0 (va_A [(h0, .inr (1, [.ref h1, .ref h2, .ref h3, .int a0, .int a1, .int a2])), (h1, .inl (cI, 360, .inl g0))] sz) := by
  refine Met.ofW (cc := cX1_putSinceNever) (maxL := 1) (ret := none) (by decide) rfl ?_
  intro p e s m args below meth c s₁ B hml hv
  obtain ⟨rfl, hsz, hP, hK, hD0⟩ := hv
  have hx := B.exec
  have hb := B.bytes
  have hr := B.returns
  have hts := atoms_spec (ws := v_s_X1_putSinceNever) B.pre
  have hown : s.vm.findClass RX1 = some m.cls := findClass_of_methodNamed B.named
  have hlocks := B.notSynchronized
  subst hsz
  have hD := hD0.self (sz := s.heap.size)
  generalize hAe : va_A [(h0, .inr (1, [.ref h1, .ref h2, .ref h3, .int a0, .int a1, .int a2])), (h1, .inl (cI, 360, .inl g0))] s.heap.size = A at hD ⊢
  have hA : ∀ q : Nat, s.heap.size ≤ q → A q := fun q h => by rw [← hAe]; exact Or.inr h
  have hP : va_P (dC, dI) vwCl [(h0, .inr (1, [.ref h1, .ref h2, .ref h3, .int a0, .int a1, .int a2])), (h1, .inl (cI, 360, .inl g0))] s.heap := hP
  have hl := lv_entry ([.ref h0]) (n := 1) (Nat.le_of_ble_eq_true rfl)
  rw [lg_entry_eq]
  generalize (lg_sl ([.ref h0]) ++ List.replicate (1 - (lg_sl ([.ref h0])).length) Slot.unset).toArray = ls at hl ⊢
  have hl : lv_has ls 1 [(0, .ref h0)] := hl
  refine W_gen (A := A) hP (fun H locs hP hS => ?_)
  refine lv_aload_n hx hb dX1_putSinceNever_0 rfl (lv_at hl 0 rfl) ?_
  refine lv_bipush (v := (-14)) hx hb dX1_putSinceNever_1 (by decide) ?_
  have hPc := hP.sub (ws' := [(h0, .inr (1, [.ref h1, .ref h2, .ref h3, .int a0, .int a1, .int a2])), (h1, .inl (cI, 360, .inl g0))]) [0, 1] rfl
  have hDc := hD.sub (ws' := [(h0, .inr (1, [.ref h1, .ref h2, .ref h3, .int a0, .int a1, .int a2])), (h1, .inl (cI, 360, .inl g0))]) [0, 1] (by decide) rfl
  have hFc := va_free (wc := [(h0, .inr (1, [.ref h1, .ref h2, .ref h3, .int a0, .int a1, .int a2])), (h1, .inl (cI, 360, .inl g0))]) hD hS hA [0, 1] rfl
  refine va_callv (va_runV (As := [.int (-14)]) (rest := []) ⟨hx, hb, hml, hown, hts⟩ (c_s_X1_put l dC dI cB cI cJ cZ cP h0 h1 g0 h2 h3 a0 (rg_mono ha0 (by decide) (by decide)) a1 a2 ((-14)) H.size) (cwV 1 hts (gd_V (List.mem_of_getElem? (i := 1) rfl) (List.mem_of_getElem? (i := 2) rfl) (List.mem_of_getElem? (i := 3) rfl) (List.mem_of_getElem? (i := 4) rfl) (gd_mono k_s_X1_put (fun _ h => List.mem_cons_of_mem _ (List.mem_append_right _ (List.mem_append_left _ h))))) rfl rfl rfl (by decide +kernel) ⟨Nat.le_of_ble_eq_true rfl, Nat.le_of_ble_eq_true rfl⟩) ⟨fun a U g mk q => by obtain ⟨q0, q1, qP, qK, qD⟩ := q; exact ⟨q0, q1, qP, va_K.moved (u := U) (U := U.calling g mk a) (Vm.Alike.refl U.vm) qK, qD⟩, va_recv hK hPc (ci := 1) (q0 := 0) rfl rfl, fun U hU hW => ⟨rfl, by rw [hU], by rw [hU]; exact hPc, va_K.moved hW.alike hK, hDc.weaken (fun _ _ _ _ => trivial)⟩⟩ rfl rfl hl.1 rfl (lv_room (Nat.le_of_ble_eq_true rfl)) dX1_putSinceNever_3 ⟨Nat.le_of_ble_eq_true rfl, Nat.le_of_ble_eq_true rfl⟩) hS (fun q _ h => hFc q h) hFc (fun u t H1 locs ht hvm hw hB hz1 hk1 hS => ?_)
  obtain ⟨x_2, f_3, hx_2, hP1, hD1⟩ := hB
  rw [ht] at hP1
  obtain ⟨hP, hD⟩ := va_join (wr := []) (w1 := [(h0, .inr (1, [.ref h1, .ref h2, .ref h3, .int x_2, .int a1, .int a2])), (h1, .inl (cI, 360, .inl f_3))]) hP hD [0, 1] [] rfl rfl (by decide) (by decide) hk1 hFc hP1 hD1
  generalize H1 = H at hP hS ⊢
  have hP : va_P (dC, dI) vwCl [(h0, .inr (1, [.ref h1, .ref h2, .ref h3, .int x_2, .int a1, .int a2])), (h1, .inl (cI, 360, .inl f_3))] H := hP
  have hD : va_D A [(h0, .inr (1, [.ref h1, .ref h2, .ref h3, .int x_2, .int a1, .int a2])), (h1, .inl (cI, 360, .inl f_3))] := hD
  refine lv_aload_n hx hb dX1_putSinceNever_6 rfl (lv_at hl 0 rfl) ?_
  refine lv_bipush (v := 99) hx hb dX1_putSinceNever_7 (by decide) ?_
  have hPc := hP.sub (ws' := [(h0, .inr (1, [.ref h1, .ref h2, .ref h3, .int x_2, .int a1, .int a2])), (h1, .inl (cI, 360, .inl f_3))]) [0, 1] rfl
  have hDc := hD.sub (ws' := [(h0, .inr (1, [.ref h1, .ref h2, .ref h3, .int x_2, .int a1, .int a2])), (h1, .inl (cI, 360, .inl f_3))]) [0, 1] (by decide) rfl
  have hFc := va_free (wc := [(h0, .inr (1, [.ref h1, .ref h2, .ref h3, .int x_2, .int a1, .int a2])), (h1, .inl (cI, 360, .inl f_3))]) hD hS hA [0, 1] rfl
  refine va_callv (va_runV (As := [.int 99]) (rest := []) ⟨hx, hb, hml, hown, hts⟩ (c_s_X1_put l dC dI cB cI cJ cZ cP h0 h1 f_3 h2 h3 x_2 (rg_mono hx_2 (by decide) (by decide)) a1 a2 99 H.size) (cwV 1 hts (gd_V (List.mem_of_getElem? (i := 1) rfl) (List.mem_of_getElem? (i := 2) rfl) (List.mem_of_getElem? (i := 3) rfl) (List.mem_of_getElem? (i := 4) rfl) (gd_mono k_s_X1_put (fun _ h => List.mem_cons_of_mem _ (List.mem_append_right _ (List.mem_append_left _ h))))) rfl rfl rfl (by decide +kernel) ⟨Nat.le_of_ble_eq_true rfl, Nat.le_of_ble_eq_true rfl⟩) ⟨fun a U g mk q => by obtain ⟨q0, q1, qP, qK, qD⟩ := q; exact ⟨q0, q1, qP, va_K.moved (u := U) (U := U.calling g mk a) (Vm.Alike.refl U.vm) qK, qD⟩, va_recv hK hPc (ci := 1) (q0 := 0) rfl rfl, fun U hU hW => ⟨rfl, by rw [hU], by rw [hU]; exact hPc, va_K.moved hW.alike hK, hDc.weaken (fun _ _ _ _ => trivial)⟩⟩ rfl rfl hl.1 rfl (lv_room (Nat.le_of_ble_eq_true rfl)) dX1_putSinceNever_9 ⟨Nat.le_of_ble_eq_true rfl, Nat.le_of_ble_eq_true rfl⟩) hS (fun q _ h => hFc q h) hFc (fun u t H1 locs ht hvm hw hB hz1 hk1 hS => ?_)
  obtain ⟨x_5, f_6, hx_5, hP1, hD1⟩ := hB
  rw [ht] at hP1
  obtain ⟨hP, hD⟩ := va_join (wr := []) (w1 := [(h0, .inr (1, [.ref h1, .ref h2, .ref h3, .int x_5, .int a1, .int a2])), (h1, .inl (cI, 360, .inl f_6))]) hP hD [0, 1] [] rfl rfl (by decide) (by decide) hk1 hFc hP1 hD1
  generalize H1 = H at hP hS ⊢
  have hP : va_P (dC, dI) vwCl [(h0, .inr (1, [.ref h1, .ref h2, .ref h3, .int x_5, .int a1, .int a2])), (h1, .inl (cI, 360, .inl f_6))] H := hP
  have hD : va_D A [(h0, .inr (1, [.ref h1, .ref h2, .ref h3, .int x_5, .int a1, .int a2])), (h1, .inl (cI, 360, .inl f_6))] := hD
  refine lv_aload_n hx hb dX1_putSinceNever_12 rfl (lv_at hl 0 rfl) ?_
  refine lv_bipush (v := (-23)) hx hb dX1_putSinceNever_13 (by decide) ?_
  have hPc := hP.sub (ws' := [(h0, .inr (1, [.ref h1, .ref h2, .ref h3, .int x_5, .int a1, .int a2])), (h1, .inl (cI, 360, .inl f_6))]) [0, 1] rfl
  have hDc := hD.sub (ws' := [(h0, .inr (1, [.ref h1, .ref h2, .ref h3, .int x_5, .int a1, .int a2])), (h1, .inl (cI, 360, .inl f_6))]) [0, 1] (by decide) rfl
  have hFc := va_free (wc := [(h0, .inr (1, [.ref h1, .ref h2, .ref h3, .int x_5, .int a1, .int a2])), (h1, .inl (cI, 360, .inl f_6))]) hD hS hA [0, 1] rfl
  refine va_callv (va_runV (As := [.int (-23)]) (rest := []) ⟨hx, hb, hml, hown, hts⟩ (c_s_X1_put l dC dI cB cI cJ cZ cP h0 h1 f_6 h2 h3 x_5 (rg_mono hx_5 (by decide) (by decide)) a1 a2 ((-23)) H.size) (cwV 1 hts (gd_V (List.mem_of_getElem? (i := 1) rfl) (List.mem_of_getElem? (i := 2) rfl) (List.mem_of_getElem? (i := 3) rfl) (List.mem_of_getElem? (i := 4) rfl) (gd_mono k_s_X1_put (fun _ h => List.mem_cons_of_mem _ (List.mem_append_right _ (List.mem_append_left _ h))))) rfl rfl rfl (by decide +kernel) ⟨Nat.le_of_ble_eq_true rfl, Nat.le_of_ble_eq_true rfl⟩) ⟨fun a U g mk q => by obtain ⟨q0, q1, qP, qK, qD⟩ := q; exact ⟨q0, q1, qP, va_K.moved (u := U) (U := U.calling g mk a) (Vm.Alike.refl U.vm) qK, qD⟩, va_recv hK hPc (ci := 1) (q0 := 0) rfl rfl, fun U hU hW => ⟨rfl, by rw [hU], by rw [hU]; exact hPc, va_K.moved hW.alike hK, hDc.weaken (fun _ _ _ _ => trivial)⟩⟩ rfl rfl hl.1 rfl (lv_room (Nat.le_of_ble_eq_true rfl)) dX1_putSinceNever_15 ⟨Nat.le_of_ble_eq_true rfl, Nat.le_of_ble_eq_true rfl⟩) hS (fun q _ h => hFc q h) hFc (fun u t H1 locs ht hvm hw hB hz1 hk1 hS => ?_)
  obtain ⟨x_8, f_9, hx_8, hP1, hD1⟩ := hB
  rw [ht] at hP1
  obtain ⟨hP, hD⟩ := va_join (wr := []) (w1 := [(h0, .inr (1, [.ref h1, .ref h2, .ref h3, .int x_8, .int a1, .int a2])), (h1, .inl (cI, 360, .inl f_9))]) hP hD [0, 1] [] rfl rfl (by decide) (by decide) hk1 hFc hP1 hD1
  generalize H1 = H at hP hS ⊢
  have hP : va_P (dC, dI) vwCl [(h0, .inr (1, [.ref h1, .ref h2, .ref h3, .int x_8, .int a1, .int a2])), (h1, .inl (cI, 360, .inl f_9))] H := hP
  have hD : va_D A [(h0, .inr (1, [.ref h1, .ref h2, .ref h3, .int x_8, .int a1, .int a2])), (h1, .inl (cI, 360, .inl f_9))] := hD
  have hP9 := hP.sub (ws' := [(h0, .inr (1, [.ref h1, .ref h2, .ref h3, .int x_8, .int a1, .int a2])), (h1, .inl (cI, 360, .inl f_9))]) [0, 1] rfl
  have hD9 := hD.sub (ws' := [(h0, .inr (1, [.ref h1, .ref h2, .ref h3, .int x_8, .int a1, .int a2])), (h1, .inl (cI, 360, .inl f_9))]) [0, 1] (by decide) rfl
  exact W.vret hx hb hr (fun t ht hW => ⟨⟨(), rfl, trivial, ⟨x_8, f_9, (rg_mono hx_8 (by decide) (by decide)), by rw [ht]; exact hP9, hD9⟩⟩, hS.F ht⟩) hS.2.2 dX1_putSinceNever_18
def v_s_X1_clear : List Cond := Cond.code yX1_clear cX1_clear 1 none :: ([Cond.methodLink RX1 38 yX1_open, Cond.instanceMethod yX1_open, Cond.selects RX1 yX1_open yX1_open, Cond.initialized RX1, Cond.methodLink RX1 31 yX1_putSinceNever, Cond.instanceMethod yX1_putSinceNever, Cond.selects RX1 yX1_putSinceNever yX1_putSinceNever] ++ (v_s_X1_open ++ (v_s_X1_putSinceNever ++ ([]))))
theorem k_s_X1_clear : GoodIn lw_tbl v_s_X1_clear := gd_c (List.mem_of_getElem? (i := 686) (by decide +kernel)) rfl (goodIn_app (gd_c (List.mem_of_getElem? (i := 687) (by decide +kernel)) rfl (gd_c (List.mem_of_getElem? (i := 688) (by decide +kernel)) rfl (gd_c (List.mem_of_getElem? (i := 689) (by decide +kernel)) rfl (gd_c (List.mem_of_getElem? (i := 133) (by decide +kernel)) rfl (gd_c (List.mem_of_getElem? (i := 175) (by decide +kernel)) rfl (gd_c (List.mem_of_getElem? (i := 177) (by decide +kernel)) rfl (gd_c (List.mem_of_getElem? (i := 0) (by decide +kernel)) rfl (gd_nil)))))))) (goodIn_app k_s_X1_open (goodIn_app k_s_X1_putSinceNever (gd_nil))))
set_option maxHeartbeats 2000000 in
set_option maxRecDepth 100000 in
theorem c_s_X1_clear (l : Launch) (dC : Nat → ClassId) (dI : Nat → Nat → Nat) (cB cI cJ cZ cP : ClassId) (h0 : Nat) (h1 : Nat) (g0 : Nat → Int32) (h2 : Nat) (h3 : Nat) (a0 : Int32) (a1 : Int32) (a2 : Int32) (sz : Nat) : Met l yX1_clear v_s_X1_clear ({ frames := 2, cells := 0, slots := 0, locals := 41 }) (va_Pc [.ref h0] (fun U => U.heap.size = sz ∧ va_P (dC, dI) vwCl [(h0, .inr (1, [.ref h1, .ref h2, .ref h3, .int a0, .int a1, .int a2])), (h1, .inl (cI, 360, .inl g0))] U.heap ∧ va_K (dC, dI) vwCl (ty5 cB cI cJ cZ cP) U ∧ va_D (fun _ => True) [(h0, .inr (1, [.ref h1, .ref h2, .ref h3, .int a0, .int a1, .int a2])), (h1, .inl (cI, 360, .inl g0))])) (va_Qv (fun _ : Unit => True) (fun _ t => ∃ (z0 : Int32) (z1 : Nat → Int32), rg (0) (360) z0 ∧ va_P (dC, dI) vwCl [(h0, .inr (1, [.ref h1, .ref h2, .ref h3, .int z0, .int a1, .int 0])), (h1, .inl (cI, 360, .inl z1))] t.heap ∧ va_D (va_A [(h0, .inr (1, [.ref h1, .ref h2, .ref h3, .int a0, .int a1, .int a2])), (h1, .inl (cI, 360, .inl g0))] sz) [(h0, .inr (1, [.ref h1, .ref h2, .ref h3, .int z0, .int a1, .int 0])), (h1, .inl (cI, 360, .inl z1))]) (va_A [(h0, .inr (1, [.ref h1, .ref h2, .ref h3, .int a0, .int a1, .int a2])), (h1, .inl (cI, 360, .inl g0))] sz)) 0 0 (va_A [(h0, .inr (1, [.ref h1, .ref h2, .ref h3, .int a0, .int a1, .int a2])), (h1, .inl (cI, 360, .inl g0))] sz) := by
  refine Met.ofW (cc := cX1_clear) (maxL := 1) (ret := none) (by decide) rfl ?_
  intro p e s m args below meth c s₁ B hml hv
  obtain ⟨rfl, hsz, hP, hK, hD0⟩ := hv
  have hx := B.exec
  have hb := B.bytes
  have hr := B.returns
  have hts := atoms_spec (ws := v_s_X1_clear) B.pre
  have hown : s.vm.findClass RX1 = some m.cls := findClass_of_methodNamed B.named
  have hlocks := B.notSynchronized
  subst hsz
  have hD := hD0.self (sz := s.heap.size)
  generalize hAe : va_A [(h0, .inr (1, [.ref h1, .ref h2, .ref h3, .int a0, .int a1, .int a2])), (h1, .inl (cI, 360, .inl g0))] s.heap.size = A at hD ⊢
  have hA : ∀ q : Nat, s.heap.size ≤ q → A q := fun q h => by rw [← hAe]; exact Or.inr h
  have hP : va_P (dC, dI) vwCl [(h0, .inr (1, [.ref h1, .ref h2, .ref h3, .int a0, .int a1, .int a2])), (h1, .inl (cI, 360, .inl g0))] s.heap := hP
  have hl := lv_entry ([.ref h0]) (n := 1) (Nat.le_of_ble_eq_true rfl)
  rw [lg_entry_eq]
  generalize (lg_sl ([.ref h0]) ++ List.replicate (1 - (lg_sl ([.ref h0])).length) Slot.unset).toArray = ls at hl ⊢
  have hl : lv_has ls 1 [(0, .ref h0)] := hl
  refine W_gen (A := A) hP (fun H locs hP hS => ?_)
  refine lv_aload_n hx hb dX1_clear_0 rfl (lv_at hl 0 rfl) ?_
  have hPc := hP.sub (ws' := [(h0, .inr (1, [.ref h1, .ref h2, .ref h3, .int a0, .int a1, .int a2]))]) [0] rfl
  have hDc := hD.sub (ws' := [(h0, .inr (1, [.ref h1, .ref h2, .ref h3, .int a0, .int a1, .int a2]))]) [0] (by decide) rfl
  have hFc := va_free (wc := [(h0, .inr (1, [.ref h1, .ref h2, .ref h3, .int a0, .int a1, .int a2]))]) hD hS hA [0] rfl
  refine va_callv (va_runV (As := []) (rest := []) ⟨hx, hb, hml, hown, hts⟩ (c_s_X1_open l dC dI cB cI cJ cZ cP h0 h1 h2 h3 a0 a1 a2 H.size) (cwV 0 hts (gd_V (List.mem_of_getElem? (i := 1) rfl) (List.mem_of_getElem? (i := 2) rfl) (List.mem_of_getElem? (i := 3) rfl) (List.mem_of_getElem? (i := 4) rfl) (gd_mono k_s_X1_open (fun _ h => List.mem_cons_of_mem _ (List.mem_append_right _ (List.mem_append_left _ h))))) rfl rfl rfl (by decide +kernel) ⟨Nat.le_of_ble_eq_true rfl, Nat.le_of_ble_eq_true rfl⟩) ⟨fun a U g mk q => by obtain ⟨q0, q1, qP, qK, qD⟩ := q; exact ⟨q0, q1, qP, va_K.moved (u := U) (U := U.calling g mk a) (Vm.Alike.refl U.vm) qK, qD⟩, va_recv hK hPc (ci := 1) (q0 := 0) rfl rfl, fun U hU hW => ⟨rfl, by rw [hU], by rw [hU]; exact hPc, va_K.moved hW.alike hK, hDc.weaken (fun _ _ _ _ => trivial)⟩⟩ rfl rfl hl.1 rfl (lv_room (Nat.le_of_ble_eq_true rfl)) dX1_clear_1 ⟨Nat.le_of_ble_eq_true rfl, Nat.le_of_ble_eq_true rfl⟩) hS (fun q _ h => hFc q h) hFc (fun u t H1 locs ht hvm hw hB hz1 hk1 hS => ?_)
  obtain ⟨hP1, hD1⟩ := hB
  rw [ht] at hP1
  obtain ⟨hP, hD⟩ := va_join (wr := [(h1, .inl (cI, 360, .inl g0))]) (w1 := [(h0, .inr (1, [.ref h1, .ref h2, .ref h3, .int 0, .int a1, .int 0]))]) hP hD [0] [1] rfl rfl (by decide) (by decide) hk1 hFc hP1 hD1
  generalize H1 = H at hP hS ⊢
  have hP : va_P (dC, dI) vwCl [(h1, .inl (cI, 360, .inl g0)), (h0, .inr (1, [.ref h1, .ref h2, .ref h3, .int 0, .int a1, .int 0]))] H := hP
  have hD : va_D A [(h1, .inl (cI, 360, .inl g0)), (h0, .inr (1, [.ref h1, .ref h2, .ref h3, .int 0, .int a1, .int 0]))] := hD
  refine lv_aload_n hx hb dX1_clear_4 rfl (lv_at hl 0 rfl) ?_
  have hPc := hP.sub (ws' := [(h0, .inr (1, [.ref h1, .ref h2, .ref h3, .int 0, .int a1, .int 0])), (h1, .inl (cI, 360, .inl g0))]) [1, 0] rfl
  have hDc := hD.sub (ws' := [(h0, .inr (1, [.ref h1, .ref h2, .ref h3, .int 0, .int a1, .int 0])), (h1, .inl (cI, 360, .inl g0))]) [1, 0] (by decide) rfl
  have hFc := va_free (wc := [(h0, .inr (1, [.ref h1, .ref h2, .ref h3, .int 0, .int a1, .int 0])), (h1, .inl (cI, 360, .inl g0))]) hD hS hA [1, 0] rfl
  refine va_callv (va_runV (As := []) (rest := []) ⟨hx, hb, hml, hown, hts⟩ (c_s_X1_putSinceNever l dC dI cB cI cJ cZ cP h0 h1 g0 h2 h3 0 (rg_mono (rg_k (x := 0) (c := 0) (by decide)) (by decide) (by decide)) a1 0 H.size) (cwV 0 hts (gd_V (List.mem_of_getElem? (i := 5) rfl) (List.mem_of_getElem? (i := 6) rfl) (List.mem_of_getElem? (i := 7) rfl) (List.mem_of_getElem? (i := 4) rfl) (gd_mono k_s_X1_putSinceNever (fun _ h => List.mem_cons_of_mem _ (List.mem_append_right _ (List.mem_append_right _ (List.mem_append_left _ h)))))) rfl rfl rfl (by decide +kernel) ⟨Nat.le_of_ble_eq_true rfl, Nat.le_of_ble_eq_true rfl⟩) ⟨fun a U g mk q => by obtain ⟨q0, q1, qP, qK, qD⟩ := q; exact ⟨q0, q1, qP, va_K.moved (u := U) (U := U.calling g mk a) (Vm.Alike.refl U.vm) qK, qD⟩, va_recv hK hPc (ci := 1) (q0 := 0) rfl rfl, fun U hU hW => ⟨rfl, by rw [hU], by rw [hU]; exact hPc, va_K.moved hW.alike hK, hDc.weaken (fun _ _ _ _ => trivial)⟩⟩ rfl rfl hl.1 rfl (lv_room (Nat.le_of_ble_eq_true rfl)) dX1_clear_5 ⟨Nat.le_of_ble_eq_true rfl, Nat.le_of_ble_eq_true rfl⟩) hS (fun q _ h => hFc q h) hFc (fun u t H1 locs ht hvm hw hB hz1 hk1 hS => ?_)
  obtain ⟨x_3, f_4, hx_3, hP1, hD1⟩ := hB
  rw [ht] at hP1
  obtain ⟨hP, hD⟩ := va_join (wr := []) (w1 := [(h0, .inr (1, [.ref h1, .ref h2, .ref h3, .int x_3, .int a1, .int 0])), (h1, .inl (cI, 360, .inl f_4))]) hP hD [1, 0] [] rfl rfl (by decide) (by decide) hk1 hFc hP1 hD1
  generalize H1 = H at hP hS ⊢
  have hP : va_P (dC, dI) vwCl [(h0, .inr (1, [.ref h1, .ref h2, .ref h3, .int x_3, .int a1, .int 0])), (h1, .inl (cI, 360, .inl f_4))] H := hP
  have hD : va_D A [(h0, .inr (1, [.ref h1, .ref h2, .ref h3, .int x_3, .int a1, .int 0])), (h1, .inl (cI, 360, .inl f_4))] := hD
  have hP9 := hP.sub (ws' := [(h0, .inr (1, [.ref h1, .ref h2, .ref h3, .int x_3, .int a1, .int 0])), (h1, .inl (cI, 360, .inl f_4))]) [0, 1] rfl
  have hD9 := hD.sub (ws' := [(h0, .inr (1, [.ref h1, .ref h2, .ref h3, .int x_3, .int a1, .int 0])), (h1, .inl (cI, 360, .inl f_4))]) [0, 1] (by decide) rfl
  exact W.vret hx hb hr (fun t ht hW => ⟨⟨(), rfl, trivial, ⟨x_3, f_4, (rg_mono hx_3 (by decide) (by decide)), by rw [ht]; exact hP9, hD9⟩⟩, hS.F ht⟩) hS.2.2 dX1_clear_8
def v_s_X1_joined : List Cond := Cond.code yX1_joined cX1_joined 3 (some .int) :: ([] ++ ([]))
theorem k_s_X1_joined : GoodIn lw_tbl v_s_X1_joined := gd_c (List.mem_of_getElem? (i := 824) (by decide +kernel)) rfl (goodIn_app (gd_nil) (gd_nil))
set_option maxHeartbeats 2000000 in
set_option maxRecDepth 100000 in
theorem c_s_X1_joined (l : Launch) (dC : Nat → ClassId) (dI : Nat → Nat → Nat) (cB cI cJ cZ cP : ClassId) (p0 : Int32) (p1 : Int32) (p2 : Int32) (sz : Nat) : Met l yX1_joined v_s_X1_joined ({ frames := 0, cells := 0, slots := 0, locals := 0 }) (va_Pc [.int p0, .int p1, .int p2] (fun U => U.heap.size = sz ∧ va_P (dC, dI) vwCl [] U.heap ∧ va_K (dC, dI) vwCl (ty5 cB cI cJ cZ cP) U ∧ va_D (fun _ => True) [])) (va_Qi (fun (r : Int32) (u9 : Unit) => True) (fun u9 t => va_P (dC, dI) vwCl [] t.heap ∧ va_D (va_A [] sz) []) (va_A [] sz)) 0 0 (va_A [] sz) := by
  refine Met.ofW (cc := cX1_joined) (maxL := 3) (ret := (some .int)) (by decide) rfl ?_
  intro p e s m args below meth c s₁ B hml hv
  obtain ⟨rfl, hsz, hP, hK, hD0⟩ := hv
  have hx := B.exec
  have hb := B.bytes
  have hr := B.returns
  have hts := atoms_spec (ws := v_s_X1_joined) B.pre
  have hown : s.vm.findClass RX1 = some m.cls := findClass_of_methodNamed B.named
  have hlocks := B.notSynchronized
  subst hsz
  have hD := hD0.self (sz := s.heap.size)
  generalize hAe : va_A [] s.heap.size = A at hD ⊢
  have hA : ∀ q : Nat, s.heap.size ≤ q → A q := fun q h => by rw [← hAe]; exact Or.inr h
  have hP : va_P (dC, dI) vwCl [] s.heap := hP
  have hl := lv_entry ([.int p0, .int p1, .int p2]) (n := 3) (Nat.le_of_ble_eq_true rfl)
  rw [lg_entry_eq]
  generalize (lg_sl ([.int p0, .int p1, .int p2]) ++ List.replicate (3 - (lg_sl ([.int p0, .int p1, .int p2])).length) Slot.unset).toArray = ls at hl ⊢
  have hl : lv_has ls 3 [(0, .int p0), (1, .int p1), (2, .int p2)] := hl
  refine W_gen (A := A) hP (fun H locs hP hS => ?_)
  refine lv_iload_n hx hb dX1_joined_0 rfl (lv_at hl 0 rfl) ?_
  by_cases c_1 : p0 = 9
  · subst c_1
    refine lv_tableIn (off := 87) (tgt := 88) hx hb dX1_joined_1 (by decide) (by decide) (by decide) (by decide) ?_
    refine lv_iload_n hx hb dX1_joined_88 rfl (lv_at hl 1 rfl) ?_
    refine lv_if_ne (tgt := 96) hx hb dX1_joined_89 (by decide) (fun c_2 => ?_) (fun c_2 => ?_)
    · skip
      refine lv_iconst (v := 1) hx hb dX1_joined_96 (by decide) ?_
      refine lv_goto (tgt := 101) hx hb dX1_joined_97 (by decide) ?_
      have hP9 := hP.sub (ws' := []) [] rfl
      have hD9 := hD.sub (ws' := []) [] (by decide) rfl
      exact W.iret (v := 1) hx hb hr (fun t ht hW => ⟨⟨1, (), rfl, trivial, ⟨by rw [ht]; exact hP9, hD9⟩⟩, hS.F ht⟩) hS.2.2 dX1_joined_101
    · skip
      have h_3 : rg (0) (0) p1 := by have ha := (rg_any p1); have hb_ := (rg_k (x := 0) (c := 0) (by decide)); simp only [rg, fa_lt, fa_le, fa_eq, (by decide : (0 : Int32).toInt = 0)] at ha hb_ c_2; simp only [rg]; omega
      refine lv_iload_n hx hb dX1_joined_92 rfl (lv_at hl 2 rfl) ?_
      refine lv_if_eq (tgt := 100) hx hb dX1_joined_93 (by decide) (fun c_4 => ?_) (fun c_4 => ?_)
      · skip
        have h_5 : rg (0) (0) p2 := by have ha := (rg_any p2); have hb_ := (rg_k (x := 0) (c := 0) (by decide)); simp only [rg, fa_lt, fa_le, fa_eq, (by decide : (0 : Int32).toInt = 0)] at ha hb_ c_4; simp only [rg]; omega
        refine lv_iconst (v := 0) hx hb dX1_joined_100 (by decide) ?_
        have hP9 := hP.sub (ws' := []) [] rfl
        have hD9 := hD.sub (ws' := []) [] (by decide) rfl
        exact W.iret (v := 0) hx hb hr (fun t ht hW => ⟨⟨0, (), rfl, trivial, ⟨by rw [ht]; exact hP9, hD9⟩⟩, hS.F ht⟩) hS.2.2 dX1_joined_101
      · skip
        refine lv_iconst (v := 1) hx hb dX1_joined_96 (by decide) ?_
        refine lv_goto (tgt := 101) hx hb dX1_joined_97 (by decide) ?_
        have hP9 := hP.sub (ws' := []) [] rfl
        have hD9 := hD.sub (ws' := []) [] (by decide) rfl
        exact W.iret (v := 1) hx hb hr (fun t ht hW => ⟨⟨1, (), rfl, trivial, ⟨by rw [ht]; exact hP9, hD9⟩⟩, hS.F ht⟩) hS.2.2 dX1_joined_101
  by_cases c_6 : p0 = 10
  · subst c_6
    refine lv_tableIn (off := 101) (tgt := 102) hx hb dX1_joined_1 (by decide) (by decide) (by decide) (by decide) ?_
    refine lv_iload_n hx hb dX1_joined_102 rfl (lv_at hl 1 rfl) ?_
    refine lv_if_eq (tgt := 114) hx hb dX1_joined_103 (by decide) (fun c_7 => ?_) (fun c_7 => ?_)
    · skip
      have h_8 : rg (0) (0) p1 := by have ha := (rg_any p1); have hb_ := (rg_k (x := 0) (c := 0) (by decide)); simp only [rg, fa_lt, fa_le, fa_eq, (by decide : (0 : Int32).toInt = 0)] at ha hb_ c_7; simp only [rg]; omega
      refine lv_iconst (v := 0) hx hb dX1_joined_114 (by decide) ?_
      have hP9 := hP.sub (ws' := []) [] rfl
      have hD9 := hD.sub (ws' := []) [] (by decide) rfl
      exact W.iret (v := 0) hx hb hr (fun t ht hW => ⟨⟨0, (), rfl, trivial, ⟨by rw [ht]; exact hP9, hD9⟩⟩, hS.F ht⟩) hS.2.2 dX1_joined_115
    · skip
      refine lv_iload_n hx hb dX1_joined_106 rfl (lv_at hl 2 rfl) ?_
      refine lv_if_eq (tgt := 114) hx hb dX1_joined_107 (by decide) (fun c_9 => ?_) (fun c_9 => ?_)
      · skip
        have h_10 : rg (0) (0) p2 := by have ha := (rg_any p2); have hb_ := (rg_k (x := 0) (c := 0) (by decide)); simp only [rg, fa_lt, fa_le, fa_eq, (by decide : (0 : Int32).toInt = 0)] at ha hb_ c_9; simp only [rg]; omega
        refine lv_iconst (v := 0) hx hb dX1_joined_114 (by decide) ?_
        have hP9 := hP.sub (ws' := []) [] rfl
        have hD9 := hD.sub (ws' := []) [] (by decide) rfl
        exact W.iret (v := 0) hx hb hr (fun t ht hW => ⟨⟨0, (), rfl, trivial, ⟨by rw [ht]; exact hP9, hD9⟩⟩, hS.F ht⟩) hS.2.2 dX1_joined_115
      · skip
        refine lv_iconst (v := 1) hx hb dX1_joined_110 (by decide) ?_
        refine lv_goto (tgt := 115) hx hb dX1_joined_111 (by decide) ?_
        have hP9 := hP.sub (ws' := []) [] rfl
        have hD9 := hD.sub (ws' := []) [] (by decide) rfl
        exact W.iret (v := 1) hx hb hr (fun t ht hW => ⟨⟨1, (), rfl, trivial, ⟨by rw [ht]; exact hP9, hD9⟩⟩, hS.F ht⟩) hS.2.2 dX1_joined_115
  by_cases c_11 : p0 = 11
  · subst c_11
    refine lv_tableIn (off := 160) (tgt := 161) hx hb dX1_joined_1 (by decide) (by decide) (by decide) (by decide) ?_
    refine lv_iload_n hx hb dX1_joined_161 rfl (lv_at hl 2 rfl) ?_
    refine lv_if_ne (tgt := 169) hx hb dX1_joined_162 (by decide) (fun c_12 => ?_) (fun c_12 => ?_)
    · skip
      refine lv_iload_n hx hb dX1_joined_169 rfl (lv_at hl 1 rfl) ?_
      refine lv_iload_n hx hb dX1_joined_170 rfl (lv_at hl 2 rfl) ?_
      refine lv_idiv hx hb dX1_joined_171 c_12 ?_
      refine lv_topi (fun x_13 ex_13 => ?_)
      have hP9 := hP.sub (ws' := []) [] rfl
      have hD9 := hD.sub (ws' := []) [] (by decide) rfl
      exact W.iret (v := x_13) hx hb hr (fun t ht hW => ⟨⟨x_13, (), rfl, trivial, ⟨by rw [ht]; exact hP9, hD9⟩⟩, hS.F ht⟩) hS.2.2 dX1_joined_172
    · skip
      have h_14 : rg (0) (0) p2 := by have ha := (rg_any p2); have hb_ := (rg_k (x := 0) (c := 0) (by decide)); simp only [rg, fa_lt, fa_le, fa_eq, (by decide : (0 : Int32).toInt = 0)] at ha hb_ c_12; simp only [rg]; omega
      refine lv_iconst (v := 0) hx hb dX1_joined_165 (by decide) ?_
      refine lv_goto (tgt := 172) hx hb dX1_joined_166 (by decide) ?_
      have hP9 := hP.sub (ws' := []) [] rfl
      have hD9 := hD.sub (ws' := []) [] (by decide) rfl
      exact W.iret (v := 0) hx hb hr (fun t ht hW => ⟨⟨0, (), rfl, trivial, ⟨by rw [ht]; exact hP9, hD9⟩⟩, hS.F ht⟩) hS.2.2 dX1_joined_172
  by_cases c_15 : p0 = 12
  · subst c_15
    refine lv_tableIn (off := 160) (tgt := 161) hx hb dX1_joined_1 (by decide) (by decide) (by decide) (by decide) ?_
    refine lv_iload_n hx hb dX1_joined_161 rfl (lv_at hl 2 rfl) ?_
    refine lv_if_ne (tgt := 169) hx hb dX1_joined_162 (by decide) (fun c_16 => ?_) (fun c_16 => ?_)
    · skip
      refine lv_iload_n hx hb dX1_joined_169 rfl (lv_at hl 1 rfl) ?_
      refine lv_iload_n hx hb dX1_joined_170 rfl (lv_at hl 2 rfl) ?_
      refine lv_idiv hx hb dX1_joined_171 c_16 ?_
      refine lv_topi (fun x_17 ex_17 => ?_)
      have hP9 := hP.sub (ws' := []) [] rfl
      have hD9 := hD.sub (ws' := []) [] (by decide) rfl
      exact W.iret (v := x_17) hx hb hr (fun t ht hW => ⟨⟨x_17, (), rfl, trivial, ⟨by rw [ht]; exact hP9, hD9⟩⟩, hS.F ht⟩) hS.2.2 dX1_joined_172
    · skip
      have h_18 : rg (0) (0) p2 := by have ha := (rg_any p2); have hb_ := (rg_k (x := 0) (c := 0) (by decide)); simp only [rg, fa_lt, fa_le, fa_eq, (by decide : (0 : Int32).toInt = 0)] at ha hb_ c_16; simp only [rg]; omega
      refine lv_iconst (v := 0) hx hb dX1_joined_165 (by decide) ?_
      refine lv_goto (tgt := 172) hx hb dX1_joined_166 (by decide) ?_
      have hP9 := hP.sub (ws' := []) [] rfl
      have hD9 := hD.sub (ws' := []) [] (by decide) rfl
      exact W.iret (v := 0) hx hb hr (fun t ht hW => ⟨⟨0, (), rfl, trivial, ⟨by rw [ht]; exact hP9, hD9⟩⟩, hS.F ht⟩) hS.2.2 dX1_joined_172
  by_cases c_19 : p0 = 13
  · subst c_19
    refine lv_tableIn (off := 160) (tgt := 161) hx hb dX1_joined_1 (by decide) (by decide) (by decide) (by decide) ?_
    refine lv_iload_n hx hb dX1_joined_161 rfl (lv_at hl 2 rfl) ?_
    refine lv_if_ne (tgt := 169) hx hb dX1_joined_162 (by decide) (fun c_20 => ?_) (fun c_20 => ?_)
    · skip
      refine lv_iload_n hx hb dX1_joined_169 rfl (lv_at hl 1 rfl) ?_
      refine lv_iload_n hx hb dX1_joined_170 rfl (lv_at hl 2 rfl) ?_
      refine lv_idiv hx hb dX1_joined_171 c_20 ?_
      refine lv_topi (fun x_21 ex_21 => ?_)
      have hP9 := hP.sub (ws' := []) [] rfl
      have hD9 := hD.sub (ws' := []) [] (by decide) rfl
      exact W.iret (v := x_21) hx hb hr (fun t ht hW => ⟨⟨x_21, (), rfl, trivial, ⟨by rw [ht]; exact hP9, hD9⟩⟩, hS.F ht⟩) hS.2.2 dX1_joined_172
    · skip
      have h_22 : rg (0) (0) p2 := by have ha := (rg_any p2); have hb_ := (rg_k (x := 0) (c := 0) (by decide)); simp only [rg, fa_lt, fa_le, fa_eq, (by decide : (0 : Int32).toInt = 0)] at ha hb_ c_20; simp only [rg]; omega
      refine lv_iconst (v := 0) hx hb dX1_joined_165 (by decide) ?_
      refine lv_goto (tgt := 172) hx hb dX1_joined_166 (by decide) ?_
      have hP9 := hP.sub (ws' := []) [] rfl
      have hD9 := hD.sub (ws' := []) [] (by decide) rfl
      exact W.iret (v := 0) hx hb hr (fun t ht hW => ⟨⟨0, (), rfl, trivial, ⟨by rw [ht]; exact hP9, hD9⟩⟩, hS.F ht⟩) hS.2.2 dX1_joined_172
  by_cases c_23 : p0 = 14
  · subst c_23
    refine lv_tableIn (off := 160) (tgt := 161) hx hb dX1_joined_1 (by decide) (by decide) (by decide) (by decide) ?_
    refine lv_iload_n hx hb dX1_joined_161 rfl (lv_at hl 2 rfl) ?_
    refine lv_if_ne (tgt := 169) hx hb dX1_joined_162 (by decide) (fun c_24 => ?_) (fun c_24 => ?_)
    · skip
      refine lv_iload_n hx hb dX1_joined_169 rfl (lv_at hl 1 rfl) ?_
      refine lv_iload_n hx hb dX1_joined_170 rfl (lv_at hl 2 rfl) ?_
      refine lv_idiv hx hb dX1_joined_171 c_24 ?_
      refine lv_topi (fun x_25 ex_25 => ?_)
      have hP9 := hP.sub (ws' := []) [] rfl
      have hD9 := hD.sub (ws' := []) [] (by decide) rfl
      exact W.iret (v := x_25) hx hb hr (fun t ht hW => ⟨⟨x_25, (), rfl, trivial, ⟨by rw [ht]; exact hP9, hD9⟩⟩, hS.F ht⟩) hS.2.2 dX1_joined_172
    · skip
      have h_26 : rg (0) (0) p2 := by have ha := (rg_any p2); have hb_ := (rg_k (x := 0) (c := 0) (by decide)); simp only [rg, fa_lt, fa_le, fa_eq, (by decide : (0 : Int32).toInt = 0)] at ha hb_ c_24; simp only [rg]; omega
      refine lv_iconst (v := 0) hx hb dX1_joined_165 (by decide) ?_
      refine lv_goto (tgt := 172) hx hb dX1_joined_166 (by decide) ?_
      have hP9 := hP.sub (ws' := []) [] rfl
      have hD9 := hD.sub (ws' := []) [] (by decide) rfl
      exact W.iret (v := 0) hx hb hr (fun t ht hW => ⟨⟨0, (), rfl, trivial, ⟨by rw [ht]; exact hP9, hD9⟩⟩, hS.F ht⟩) hS.2.2 dX1_joined_172
  by_cases c_27 : p0 = 15
  · subst c_27
    refine lv_tableIn (off := 160) (tgt := 161) hx hb dX1_joined_1 (by decide) (by decide) (by decide) (by decide) ?_
    refine lv_iload_n hx hb dX1_joined_161 rfl (lv_at hl 2 rfl) ?_
    refine lv_if_ne (tgt := 169) hx hb dX1_joined_162 (by decide) (fun c_28 => ?_) (fun c_28 => ?_)
    · skip
      refine lv_iload_n hx hb dX1_joined_169 rfl (lv_at hl 1 rfl) ?_
      refine lv_iload_n hx hb dX1_joined_170 rfl (lv_at hl 2 rfl) ?_
      refine lv_idiv hx hb dX1_joined_171 c_28 ?_
      refine lv_topi (fun x_29 ex_29 => ?_)
      have hP9 := hP.sub (ws' := []) [] rfl
      have hD9 := hD.sub (ws' := []) [] (by decide) rfl
      exact W.iret (v := x_29) hx hb hr (fun t ht hW => ⟨⟨x_29, (), rfl, trivial, ⟨by rw [ht]; exact hP9, hD9⟩⟩, hS.F ht⟩) hS.2.2 dX1_joined_172
    · skip
      have h_30 : rg (0) (0) p2 := by have ha := (rg_any p2); have hb_ := (rg_k (x := 0) (c := 0) (by decide)); simp only [rg, fa_lt, fa_le, fa_eq, (by decide : (0 : Int32).toInt = 0)] at ha hb_ c_28; simp only [rg]; omega
      refine lv_iconst (v := 0) hx hb dX1_joined_165 (by decide) ?_
      refine lv_goto (tgt := 172) hx hb dX1_joined_166 (by decide) ?_
      have hP9 := hP.sub (ws' := []) [] rfl
      have hD9 := hD.sub (ws' := []) [] (by decide) rfl
      exact W.iret (v := 0) hx hb hr (fun t ht hW => ⟨⟨0, (), rfl, trivial, ⟨by rw [ht]; exact hP9, hD9⟩⟩, hS.F ht⟩) hS.2.2 dX1_joined_172
  by_cases c_31 : p0 = 16
  · subst c_31
    refine lv_tableIn (off := 160) (tgt := 161) hx hb dX1_joined_1 (by decide) (by decide) (by decide) (by decide) ?_
    refine lv_iload_n hx hb dX1_joined_161 rfl (lv_at hl 2 rfl) ?_
    refine lv_if_ne (tgt := 169) hx hb dX1_joined_162 (by decide) (fun c_32 => ?_) (fun c_32 => ?_)
    · skip
      refine lv_iload_n hx hb dX1_joined_169 rfl (lv_at hl 1 rfl) ?_
      refine lv_iload_n hx hb dX1_joined_170 rfl (lv_at hl 2 rfl) ?_
      refine lv_idiv hx hb dX1_joined_171 c_32 ?_
      refine lv_topi (fun x_33 ex_33 => ?_)
      have hP9 := hP.sub (ws' := []) [] rfl
      have hD9 := hD.sub (ws' := []) [] (by decide) rfl
      exact W.iret (v := x_33) hx hb hr (fun t ht hW => ⟨⟨x_33, (), rfl, trivial, ⟨by rw [ht]; exact hP9, hD9⟩⟩, hS.F ht⟩) hS.2.2 dX1_joined_172
    · skip
      have h_34 : rg (0) (0) p2 := by have ha := (rg_any p2); have hb_ := (rg_k (x := 0) (c := 0) (by decide)); simp only [rg, fa_lt, fa_le, fa_eq, (by decide : (0 : Int32).toInt = 0)] at ha hb_ c_32; simp only [rg]; omega
      refine lv_iconst (v := 0) hx hb dX1_joined_165 (by decide) ?_
      refine lv_goto (tgt := 172) hx hb dX1_joined_166 (by decide) ?_
      have hP9 := hP.sub (ws' := []) [] rfl
      have hD9 := hD.sub (ws' := []) [] (by decide) rfl
      exact W.iret (v := 0) hx hb hr (fun t ht hW => ⟨⟨0, (), rfl, trivial, ⟨by rw [ht]; exact hP9, hD9⟩⟩, hS.F ht⟩) hS.2.2 dX1_joined_172
  by_cases c_35 : p0 = 17
  · subst c_35
    refine lv_tableIn (off := 160) (tgt := 161) hx hb dX1_joined_1 (by decide) (by decide) (by decide) (by decide) ?_
    refine lv_iload_n hx hb dX1_joined_161 rfl (lv_at hl 2 rfl) ?_
    refine lv_if_ne (tgt := 169) hx hb dX1_joined_162 (by decide) (fun c_36 => ?_) (fun c_36 => ?_)
    · skip
      refine lv_iload_n hx hb dX1_joined_169 rfl (lv_at hl 1 rfl) ?_
      refine lv_iload_n hx hb dX1_joined_170 rfl (lv_at hl 2 rfl) ?_
      refine lv_idiv hx hb dX1_joined_171 c_36 ?_
      refine lv_topi (fun x_37 ex_37 => ?_)
      have hP9 := hP.sub (ws' := []) [] rfl
      have hD9 := hD.sub (ws' := []) [] (by decide) rfl
      exact W.iret (v := x_37) hx hb hr (fun t ht hW => ⟨⟨x_37, (), rfl, trivial, ⟨by rw [ht]; exact hP9, hD9⟩⟩, hS.F ht⟩) hS.2.2 dX1_joined_172
    · skip
      have h_38 : rg (0) (0) p2 := by have ha := (rg_any p2); have hb_ := (rg_k (x := 0) (c := 0) (by decide)); simp only [rg, fa_lt, fa_le, fa_eq, (by decide : (0 : Int32).toInt = 0)] at ha hb_ c_36; simp only [rg]; omega
      refine lv_iconst (v := 0) hx hb dX1_joined_165 (by decide) ?_
      refine lv_goto (tgt := 172) hx hb dX1_joined_166 (by decide) ?_
      have hP9 := hP.sub (ws' := []) [] rfl
      have hD9 := hD.sub (ws' := []) [] (by decide) rfl
      exact W.iret (v := 0) hx hb hr (fun t ht hW => ⟨⟨0, (), rfl, trivial, ⟨by rw [ht]; exact hP9, hD9⟩⟩, hS.F ht⟩) hS.2.2 dX1_joined_172
  by_cases c_39 : p0 = 18
  · subst c_39
    refine lv_tableIn (off := 160) (tgt := 161) hx hb dX1_joined_1 (by decide) (by decide) (by decide) (by decide) ?_
    refine lv_iload_n hx hb dX1_joined_161 rfl (lv_at hl 2 rfl) ?_
    refine lv_if_ne (tgt := 169) hx hb dX1_joined_162 (by decide) (fun c_40 => ?_) (fun c_40 => ?_)
    · skip
      refine lv_iload_n hx hb dX1_joined_169 rfl (lv_at hl 1 rfl) ?_
      refine lv_iload_n hx hb dX1_joined_170 rfl (lv_at hl 2 rfl) ?_
      refine lv_idiv hx hb dX1_joined_171 c_40 ?_
      refine lv_topi (fun x_41 ex_41 => ?_)
      have hP9 := hP.sub (ws' := []) [] rfl
      have hD9 := hD.sub (ws' := []) [] (by decide) rfl
      exact W.iret (v := x_41) hx hb hr (fun t ht hW => ⟨⟨x_41, (), rfl, trivial, ⟨by rw [ht]; exact hP9, hD9⟩⟩, hS.F ht⟩) hS.2.2 dX1_joined_172
    · skip
      have h_42 : rg (0) (0) p2 := by have ha := (rg_any p2); have hb_ := (rg_k (x := 0) (c := 0) (by decide)); simp only [rg, fa_lt, fa_le, fa_eq, (by decide : (0 : Int32).toInt = 0)] at ha hb_ c_40; simp only [rg]; omega
      refine lv_iconst (v := 0) hx hb dX1_joined_165 (by decide) ?_
      refine lv_goto (tgt := 172) hx hb dX1_joined_166 (by decide) ?_
      have hP9 := hP.sub (ws' := []) [] rfl
      have hD9 := hD.sub (ws' := []) [] (by decide) rfl
      exact W.iret (v := 0) hx hb hr (fun t ht hW => ⟨⟨0, (), rfl, trivial, ⟨by rw [ht]; exact hP9, hD9⟩⟩, hS.F ht⟩) hS.2.2 dX1_joined_172
  by_cases c_43 : p0 = 19
  · subst c_43
    refine lv_tableIn (off := 160) (tgt := 161) hx hb dX1_joined_1 (by decide) (by decide) (by decide) (by decide) ?_
    refine lv_iload_n hx hb dX1_joined_161 rfl (lv_at hl 2 rfl) ?_
    refine lv_if_ne (tgt := 169) hx hb dX1_joined_162 (by decide) (fun c_44 => ?_) (fun c_44 => ?_)
    · skip
      refine lv_iload_n hx hb dX1_joined_169 rfl (lv_at hl 1 rfl) ?_
      refine lv_iload_n hx hb dX1_joined_170 rfl (lv_at hl 2 rfl) ?_
      refine lv_idiv hx hb dX1_joined_171 c_44 ?_
      refine lv_topi (fun x_45 ex_45 => ?_)
      have hP9 := hP.sub (ws' := []) [] rfl
      have hD9 := hD.sub (ws' := []) [] (by decide) rfl
      exact W.iret (v := x_45) hx hb hr (fun t ht hW => ⟨⟨x_45, (), rfl, trivial, ⟨by rw [ht]; exact hP9, hD9⟩⟩, hS.F ht⟩) hS.2.2 dX1_joined_172
    · skip
      have h_46 : rg (0) (0) p2 := by have ha := (rg_any p2); have hb_ := (rg_k (x := 0) (c := 0) (by decide)); simp only [rg, fa_lt, fa_le, fa_eq, (by decide : (0 : Int32).toInt = 0)] at ha hb_ c_44; simp only [rg]; omega
      refine lv_iconst (v := 0) hx hb dX1_joined_165 (by decide) ?_
      refine lv_goto (tgt := 172) hx hb dX1_joined_166 (by decide) ?_
      have hP9 := hP.sub (ws' := []) [] rfl
      have hD9 := hD.sub (ws' := []) [] (by decide) rfl
      exact W.iret (v := 0) hx hb hr (fun t ht hW => ⟨⟨0, (), rfl, trivial, ⟨by rw [ht]; exact hP9, hD9⟩⟩, hS.F ht⟩) hS.2.2 dX1_joined_172
  by_cases c_47 : p0 = 20
  · subst c_47
    refine lv_tableIn (off := 160) (tgt := 161) hx hb dX1_joined_1 (by decide) (by decide) (by decide) (by decide) ?_
    refine lv_iload_n hx hb dX1_joined_161 rfl (lv_at hl 2 rfl) ?_
    refine lv_if_ne (tgt := 169) hx hb dX1_joined_162 (by decide) (fun c_48 => ?_) (fun c_48 => ?_)
    · skip
      refine lv_iload_n hx hb dX1_joined_169 rfl (lv_at hl 1 rfl) ?_
      refine lv_iload_n hx hb dX1_joined_170 rfl (lv_at hl 2 rfl) ?_
      refine lv_idiv hx hb dX1_joined_171 c_48 ?_
      refine lv_topi (fun x_49 ex_49 => ?_)
      have hP9 := hP.sub (ws' := []) [] rfl
      have hD9 := hD.sub (ws' := []) [] (by decide) rfl
      exact W.iret (v := x_49) hx hb hr (fun t ht hW => ⟨⟨x_49, (), rfl, trivial, ⟨by rw [ht]; exact hP9, hD9⟩⟩, hS.F ht⟩) hS.2.2 dX1_joined_172
    · skip
      have h_50 : rg (0) (0) p2 := by have ha := (rg_any p2); have hb_ := (rg_k (x := 0) (c := 0) (by decide)); simp only [rg, fa_lt, fa_le, fa_eq, (by decide : (0 : Int32).toInt = 0)] at ha hb_ c_48; simp only [rg]; omega
      refine lv_iconst (v := 0) hx hb dX1_joined_165 (by decide) ?_
      refine lv_goto (tgt := 172) hx hb dX1_joined_166 (by decide) ?_
      have hP9 := hP.sub (ws' := []) [] rfl
      have hD9 := hD.sub (ws' := []) [] (by decide) rfl
      exact W.iret (v := 0) hx hb hr (fun t ht hW => ⟨⟨0, (), rfl, trivial, ⟨by rw [ht]; exact hP9, hD9⟩⟩, hS.F ht⟩) hS.2.2 dX1_joined_172
  by_cases c_51 : p0 = 21
  · subst c_51
    refine lv_tableIn (off := 115) (tgt := 116) hx hb dX1_joined_1 (by decide) (by decide) (by decide) (by decide) ?_
    refine lv_iload_n hx hb dX1_joined_116 rfl (lv_at hl 1 rfl) ?_
    refine lv_iload_n hx hb dX1_joined_117 rfl (lv_at hl 2 rfl) ?_
    refine lv_icmp_ge (tgt := 125) hx hb dX1_joined_118 (by decide) (fun c_52 => ?_) (fun c_52 => ?_)
    · skip
      refine lv_iconst (v := 0) hx hb dX1_joined_125 (by decide) ?_
      have hP9 := hP.sub (ws' := []) [] rfl
      have hD9 := hD.sub (ws' := []) [] (by decide) rfl
      exact W.iret (v := 0) hx hb hr (fun t ht hW => ⟨⟨0, (), rfl, trivial, ⟨by rw [ht]; exact hP9, hD9⟩⟩, hS.F ht⟩) hS.2.2 dX1_joined_126
    · skip
      have h_53 : rg (-2147483648) (2147483646) p1 := by have ha := (rg_any p1); have hb_ := (rg_any p2); simp only [rg, fa_lt, fa_le, fa_eq] at ha hb_ c_52; simp only [rg]; omega
      have h_54 : rg (-2147483647) (2147483647) p2 := by have ha := (rg_any p1); have hb_ := (rg_any p2); simp only [rg, fa_lt, fa_le, fa_eq] at ha hb_ c_52; simp only [rg]; omega
      refine lv_iconst (v := 1) hx hb dX1_joined_121 (by decide) ?_
      refine lv_goto (tgt := 126) hx hb dX1_joined_122 (by decide) ?_
      have hP9 := hP.sub (ws' := []) [] rfl
      have hD9 := hD.sub (ws' := []) [] (by decide) rfl
      exact W.iret (v := 1) hx hb hr (fun t ht hW => ⟨⟨1, (), rfl, trivial, ⟨by rw [ht]; exact hP9, hD9⟩⟩, hS.F ht⟩) hS.2.2 dX1_joined_126
  by_cases c_55 : p0 = 22
  · subst c_55
    refine lv_tableIn (off := 126) (tgt := 127) hx hb dX1_joined_1 (by decide) (by decide) (by decide) (by decide) ?_
    refine lv_iload_n hx hb dX1_joined_127 rfl (lv_at hl 1 rfl) ?_
    refine lv_iload_n hx hb dX1_joined_128 rfl (lv_at hl 2 rfl) ?_
    refine lv_icmp_le (tgt := 136) hx hb dX1_joined_129 (by decide) (fun c_56 => ?_) (fun c_56 => ?_)
    · skip
      refine lv_iconst (v := 0) hx hb dX1_joined_136 (by decide) ?_
      have hP9 := hP.sub (ws' := []) [] rfl
      have hD9 := hD.sub (ws' := []) [] (by decide) rfl
      exact W.iret (v := 0) hx hb hr (fun t ht hW => ⟨⟨0, (), rfl, trivial, ⟨by rw [ht]; exact hP9, hD9⟩⟩, hS.F ht⟩) hS.2.2 dX1_joined_137
    · skip
      have h_57 : rg (-2147483647) (2147483647) p1 := by have ha := (rg_any p1); have hb_ := (rg_any p2); simp only [rg, fa_lt, fa_le, fa_eq] at ha hb_ c_56; simp only [rg]; omega
      have h_58 : rg (-2147483648) (2147483646) p2 := by have ha := (rg_any p1); have hb_ := (rg_any p2); simp only [rg, fa_lt, fa_le, fa_eq] at ha hb_ c_56; simp only [rg]; omega
      refine lv_iconst (v := 1) hx hb dX1_joined_132 (by decide) ?_
      refine lv_goto (tgt := 137) hx hb dX1_joined_133 (by decide) ?_
      have hP9 := hP.sub (ws' := []) [] rfl
      have hD9 := hD.sub (ws' := []) [] (by decide) rfl
      exact W.iret (v := 1) hx hb hr (fun t ht hW => ⟨⟨1, (), rfl, trivial, ⟨by rw [ht]; exact hP9, hD9⟩⟩, hS.F ht⟩) hS.2.2 dX1_joined_137
  by_cases c_59 : p0 = 23
  · subst c_59
    refine lv_tableIn (off := 137) (tgt := 138) hx hb dX1_joined_1 (by decide) (by decide) (by decide) (by decide) ?_
    refine lv_iload_n hx hb dX1_joined_138 rfl (lv_at hl 1 rfl) ?_
    refine lv_iload_n hx hb dX1_joined_139 rfl (lv_at hl 2 rfl) ?_
    refine lv_icmp_ne (tgt := 147) hx hb dX1_joined_140 (by decide) (fun c_60 => ?_) (fun c_60 => ?_)
    · skip
      refine lv_iconst (v := 0) hx hb dX1_joined_147 (by decide) ?_
      have hP9 := hP.sub (ws' := []) [] rfl
      have hD9 := hD.sub (ws' := []) [] (by decide) rfl
      exact W.iret (v := 0) hx hb hr (fun t ht hW => ⟨⟨0, (), rfl, trivial, ⟨by rw [ht]; exact hP9, hD9⟩⟩, hS.F ht⟩) hS.2.2 dX1_joined_148
    · skip
      refine lv_iconst (v := 1) hx hb dX1_joined_143 (by decide) ?_
      refine lv_goto (tgt := 148) hx hb dX1_joined_144 (by decide) ?_
      have hP9 := hP.sub (ws' := []) [] rfl
      have hD9 := hD.sub (ws' := []) [] (by decide) rfl
      exact W.iret (v := 1) hx hb hr (fun t ht hW => ⟨⟨1, (), rfl, trivial, ⟨by rw [ht]; exact hP9, hD9⟩⟩, hS.F ht⟩) hS.2.2 dX1_joined_148
  by_cases c_61 : p0 = 24
  · subst c_61
    refine lv_tableIn (off := 148) (tgt := 149) hx hb dX1_joined_1 (by decide) (by decide) (by decide) (by decide) ?_
    refine lv_iload_n hx hb dX1_joined_149 rfl (lv_at hl 1 rfl) ?_
    refine lv_iload_n hx hb dX1_joined_150 rfl (lv_at hl 2 rfl) ?_
    refine lv_iadd hx hb dX1_joined_151 ?_
    refine lv_topi (fun x_62 ex_62 => ?_)
    have hP9 := hP.sub (ws' := []) [] rfl
    have hD9 := hD.sub (ws' := []) [] (by decide) rfl
    exact W.iret (v := x_62) hx hb hr (fun t ht hW => ⟨⟨x_62, (), rfl, trivial, ⟨by rw [ht]; exact hP9, hD9⟩⟩, hS.F ht⟩) hS.2.2 dX1_joined_152
  by_cases c_63 : p0 = 25
  · subst c_63
    refine lv_tableIn (off := 152) (tgt := 153) hx hb dX1_joined_1 (by decide) (by decide) (by decide) (by decide) ?_
    refine lv_iload_n hx hb dX1_joined_153 rfl (lv_at hl 1 rfl) ?_
    refine lv_iload_n hx hb dX1_joined_154 rfl (lv_at hl 2 rfl) ?_
    refine lv_isub hx hb dX1_joined_155 ?_
    refine lv_topi (fun x_64 ex_64 => ?_)
    have hP9 := hP.sub (ws' := []) [] rfl
    have hD9 := hD.sub (ws' := []) [] (by decide) rfl
    exact W.iret (v := x_64) hx hb hr (fun t ht hW => ⟨⟨x_64, (), rfl, trivial, ⟨by rw [ht]; exact hP9, hD9⟩⟩, hS.F ht⟩) hS.2.2 dX1_joined_156
  by_cases c_65 : p0 = 26
  · subst c_65
    refine lv_tableIn (off := 156) (tgt := 157) hx hb dX1_joined_1 (by decide) (by decide) (by decide) (by decide) ?_
    refine lv_iload_n hx hb dX1_joined_157 rfl (lv_at hl 1 rfl) ?_
    refine lv_iload_n hx hb dX1_joined_158 rfl (lv_at hl 2 rfl) ?_
    refine lv_imul hx hb dX1_joined_159 ?_
    refine lv_topi (fun x_66 ex_66 => ?_)
    have hP9 := hP.sub (ws' := []) [] rfl
    have hD9 := hD.sub (ws' := []) [] (by decide) rfl
    exact W.iret (v := x_66) hx hb hr (fun t ht hW => ⟨⟨x_66, (), rfl, trivial, ⟨by rw [ht]; exact hP9, hD9⟩⟩, hS.F ht⟩) hS.2.2 dX1_joined_160
  refine lv_tableOut (tgt := 161) hx hb dX1_joined_1 (by have ha := (rg_any p0); simp only [rg, fa_eq, (by decide : (9 : Int32).toInt = 9), (by decide : (10 : Int32).toInt = 10), (by decide : (11 : Int32).toInt = 11), (by decide : (12 : Int32).toInt = 12), (by decide : (13 : Int32).toInt = 13), (by decide : (14 : Int32).toInt = 14), (by decide : (15 : Int32).toInt = 15), (by decide : (16 : Int32).toInt = 16), (by decide : (17 : Int32).toInt = 17), (by decide : (18 : Int32).toInt = 18), (by decide : (19 : Int32).toInt = 19), (by decide : (20 : Int32).toInt = 20), (by decide : (21 : Int32).toInt = 21), (by decide : (22 : Int32).toInt = 22), (by decide : (23 : Int32).toInt = 23), (by decide : (24 : Int32).toInt = 24), (by decide : (25 : Int32).toInt = 25), (by decide : (26 : Int32).toInt = 26)] at ha c_1 c_6 c_11 c_15 c_19 c_23 c_27 c_31 c_35 c_39 c_43 c_47 c_51 c_55 c_59 c_61 c_63 c_65; omega) (by decide) ?_
  refine lv_iload_n hx hb dX1_joined_161 rfl (lv_at hl 2 rfl) ?_
  refine lv_if_ne (tgt := 169) hx hb dX1_joined_162 (by decide) (fun c_67 => ?_) (fun c_67 => ?_)
  · skip
    refine lv_iload_n hx hb dX1_joined_169 rfl (lv_at hl 1 rfl) ?_
    refine lv_iload_n hx hb dX1_joined_170 rfl (lv_at hl 2 rfl) ?_
    refine lv_idiv hx hb dX1_joined_171 c_67 ?_
    refine lv_topi (fun x_68 ex_68 => ?_)
    have hP9 := hP.sub (ws' := []) [] rfl
    have hD9 := hD.sub (ws' := []) [] (by decide) rfl
    exact W.iret (v := x_68) hx hb hr (fun t ht hW => ⟨⟨x_68, (), rfl, trivial, ⟨by rw [ht]; exact hP9, hD9⟩⟩, hS.F ht⟩) hS.2.2 dX1_joined_172
  · skip
    have h_69 : rg (0) (0) p2 := by have ha := (rg_any p2); have hb_ := (rg_k (x := 0) (c := 0) (by decide)); simp only [rg, fa_lt, fa_le, fa_eq, (by decide : (0 : Int32).toInt = 0)] at ha hb_ c_67; simp only [rg]; omega
    refine lv_iconst (v := 0) hx hb dX1_joined_165 (by decide) ?_
    refine lv_goto (tgt := 172) hx hb dX1_joined_166 (by decide) ?_
    have hP9 := hP.sub (ws' := []) [] rfl
    have hD9 := hD.sub (ws' := []) [] (by decide) rfl
    exact W.iret (v := 0) hx hb hr (fun t ht hW => ⟨⟨0, (), rfl, trivial, ⟨by rw [ht]; exact hP9, hD9⟩⟩, hS.F ht⟩) hS.2.2 dX1_joined_172
def v_s_X1_look : List Cond := Cond.code yX1_look cX1_look 3 none :: ([Cond.fieldLink RX1 18 "MayRings$Law" "facts" "[I"] ++ (wsX10 ++ ([])))
theorem k_s_X1_look : GoodIn lw_tbl v_s_X1_look := gd_c (List.mem_of_getElem? (i := 808) (by decide +kernel)) rfl (goodIn_app (gd_c (List.mem_of_getElem? (i := 185) (by decide +kernel)) rfl (gd_nil)) (goodIn_app kfX1 (gd_nil)))
set_option maxHeartbeats 2000000 in
set_option maxRecDepth 100000 in
theorem c_s_X1_look (l : Launch) (dC : Nat → ClassId) (dI : Nat → Nat → Nat) (cB cI cJ cZ cP : ClassId) (h0 : Nat) (h1 : Nat) (h2 : Nat) (h3 : Nat) (g2 : Nat → Int32) (a0 : Int32) (a1 : Int32) (a2 : Int32) (p0 : Int32) (p1 : Int32) (sz : Nat) : Met l yX1_look v_s_X1_look ({ frames := 0, cells := 0, slots := 0, locals := 0 }) (va_Pc [.ref h0, .int p0, .int p1] (fun U => U.heap.size = sz ∧ va_P (dC, dI) vwCl [(h0, .inr (1, [.ref h1, .ref h2, .ref h3, .int a0, .int a1, .int a2])), (h3, .inl (cI, 16, .inl g2))] U.heap ∧ va_K (dC, dI) vwCl (ty5 cB cI cJ cZ cP) U ∧ va_D (fun _ => True) [(h0, .inr (1, [.ref h1, .ref h2, .ref h3, .int a0, .int a1, .int a2])), (h3, .inl (cI, 16, .inl g2))])) (va_Qv (fun _ : Unit => True) (fun _ t => ∃ (z0 : Nat → Int32), va_P (dC, dI) vwCl [(h0, .inr (1, [.ref h1, .ref h2, .ref h3, .int a0, .int a1, .int a2])), (h3, .inl (cI, 16, .inl z0))] t.heap ∧ va_D (va_A [(h0, .inr (1, [.ref h1, .ref h2, .ref h3, .int a0, .int a1, .int a2])), (h3, .inl (cI, 16, .inl g2))] sz) [(h0, .inr (1, [.ref h1, .ref h2, .ref h3, .int a0, .int a1, .int a2])), (h3, .inl (cI, 16, .inl z0))]) (va_A [(h0, .inr (1, [.ref h1, .ref h2, .ref h3, .int a0, .int a1, .int a2])), (h3, .inl (cI, 16, .inl g2))] sz)) 0 0 (va_A [(h0, .inr (1, [.ref h1, .ref h2, .ref h3, .int a0, .int a1, .int a2])), (h3, .inl (cI, 16, .inl g2))] sz) := by
  refine Met.ofW (cc := cX1_look) (maxL := 3) (ret := none) (by decide) rfl ?_
  intro p e s m args below meth c s₁ B hml hv
  obtain ⟨rfl, hsz, hP, hK, hD0⟩ := hv
  have hx := B.exec
  have hb := B.bytes
  have hr := B.returns
  have hts := atoms_spec (ws := v_s_X1_look) B.pre
  have hown : s.vm.findClass RX1 = some m.cls := findClass_of_methodNamed B.named
  have hlocks := B.notSynchronized
  have hinX1 : ∀ w ∈ wsX10, w ∈ v_s_X1_look := fun _ h => List.mem_cons_of_mem _ (List.mem_append_right _ (List.mem_append_left _ h))
  subst hsz
  have hD := hD0.self (sz := s.heap.size)
  generalize hAe : va_A [(h0, .inr (1, [.ref h1, .ref h2, .ref h3, .int a0, .int a1, .int a2])), (h3, .inl (cI, 16, .inl g2))] s.heap.size = A at hD ⊢
  have hA : ∀ q : Nat, s.heap.size ≤ q → A q := fun q h => by rw [← hAe]; exact Or.inr h
  have hP : va_P (dC, dI) vwCl [(h0, .inr (1, [.ref h1, .ref h2, .ref h3, .int a0, .int a1, .int a2])), (h3, .inl (cI, 16, .inl g2))] s.heap := hP
  have hl := lv_entry ([.ref h0, .int p0, .int p1]) (n := 3) (Nat.le_of_ble_eq_true rfl)
  rw [lg_entry_eq]
  generalize (lg_sl ([.ref h0, .int p0, .int p1]) ++ List.replicate (3 - (lg_sl ([.ref h0, .int p0, .int p1])).length) Slot.unset).toArray = ls at hl ⊢
  have hl : lv_has ls 3 [(0, .ref h0), (1, .int p0), (2, .int p1)] := hl
  refine W_gen (A := A) hP (fun H locs hP hS => ?_)
  refine lv_iload_n hx hb dX1_look_0 rfl (lv_at hl 1 rfl) ?_
  refine lv_if_lt (tgt := 17) hx hb dX1_look_1 (by decide) (fun c_1 => ?_) (fun c_1 => ?_)
  · skip
    have h_2 : rg (-2147483648) (-1) p0 := by have ha := (rg_any p0); have hb_ := (rg_k (x := 0) (c := 0) (by decide)); simp only [rg, fa_lt, fa_le, fa_eq, (by decide : (0 : Int32).toInt = 0)] at ha hb_ c_1; simp only [rg]; omega
    have hP9 := hP.sub (ws' := [(h0, .inr (1, [.ref h1, .ref h2, .ref h3, .int a0, .int a1, .int a2])), (h3, .inl (cI, 16, .inl g2))]) [0, 1] rfl
    have hD9 := hD.sub (ws' := [(h0, .inr (1, [.ref h1, .ref h2, .ref h3, .int a0, .int a1, .int a2])), (h3, .inl (cI, 16, .inl g2))]) [0, 1] (by decide) rfl
    exact W.vret hx hb hr (fun t ht hW => ⟨⟨(), rfl, trivial, ⟨g2, by rw [ht]; exact hP9, hD9⟩⟩, hS.F ht⟩) hS.2.2 dX1_look_17
  · skip
    have h_3 : rg (0) (2147483647) p0 := by have ha := (rg_any p0); have hb_ := (rg_k (x := 0) (c := 0) (by decide)); simp only [rg, fa_lt, fa_le, fa_eq, (by decide : (0 : Int32).toInt = 0)] at ha hb_ c_1; simp only [rg]; omega
    refine lv_iload_n hx hb dX1_look_4 rfl (lv_at hl 1 rfl) ?_
    refine lv_bipush (v := 15) hx hb dX1_look_5 (by decide) ?_
    refine lv_icmp_gt (tgt := 17) hx hb dX1_look_7 (by decide) (fun c_4 => ?_) (fun c_4 => ?_)
    · skip
      have h_5 : rg (16) (2147483647) p0 := by have ha := h_3; have hb_ := (rg_k (x := 15) (c := 15) (by decide)); simp only [rg, fa_lt, fa_le, fa_eq, (by decide : (15 : Int32).toInt = 15)] at ha hb_ c_4; simp only [rg]; omega
      have hP9 := hP.sub (ws' := [(h0, .inr (1, [.ref h1, .ref h2, .ref h3, .int a0, .int a1, .int a2])), (h3, .inl (cI, 16, .inl g2))]) [0, 1] rfl
      have hD9 := hD.sub (ws' := [(h0, .inr (1, [.ref h1, .ref h2, .ref h3, .int a0, .int a1, .int a2])), (h3, .inl (cI, 16, .inl g2))]) [0, 1] (by decide) rfl
      exact W.vret hx hb hr (fun t ht hW => ⟨⟨(), rfl, trivial, ⟨g2, by rw [ht]; exact hP9, hD9⟩⟩, hS.F ht⟩) hS.2.2 dX1_look_17
    · skip
      have h_6 : rg (0) (15) p0 := by have ha := h_3; have hb_ := (rg_k (x := 15) (c := 15) (by decide)); simp only [rg, fa_lt, fa_le, fa_eq, (by decide : (15 : Int32).toInt = 15)] at ha hb_ c_4; simp only [rg]; omega
      refine lv_aload_n hx hb dX1_look_10 rfl (lv_at hl 0 rfl) ?_
      refine va_get (D := (dC, dI)) (ci := 1) (v := .ref h3) (C := RX1) (T := TX1) (N := 6) hx hb hts hinX1 hown hK hP 0 rfl rfl 2 (by decide) (hts (.fieldLink RX1 18 "MayRings$Law" "facts" "[I") (List.mem_of_getElem? (i := 1) rfl)) (fun _ h9 => h9) rfl dX1_look_11 ?_
      refine lv_iload_n hx hb dX1_look_14 rfl (lv_at hl 1 rfl) ?_
      refine lv_iload_n hx hb dX1_look_15 rfl (lv_at hl 2 rfl) ?_
      refine va_iast hx hb hK hP hD hS 1 1 rfl rfl (rg_in (n := 16) (rg_mono h_6 (by decide) (by decide))) dX1_look_16 (fun H locs hP hD hS => ?_)
      obtain ⟨f_7, ef_7⟩ : ∃ f : Nat → Int32, f = upd g2 (p0 : Int32).toNatClampNeg p1 := ⟨_, rfl⟩
      rw [← ef_7] at hP hD
      clear ef_7
      have hP : va_P (dC, dI) vwCl [(h0, .inr (1, [.ref h1, .ref h2, .ref h3, .int a0, .int a1, .int a2])), (h3, .inl (cI, 16, .inl f_7))] H := hP
      have hD : va_D A [(h0, .inr (1, [.ref h1, .ref h2, .ref h3, .int a0, .int a1, .int a2])), (h3, .inl (cI, 16, .inl f_7))] := hD
      have hP9 := hP.sub (ws' := [(h0, .inr (1, [.ref h1, .ref h2, .ref h3, .int a0, .int a1, .int a2])), (h3, .inl (cI, 16, .inl f_7))]) [0, 1] rfl
      have hD9 := hD.sub (ws' := [(h0, .inr (1, [.ref h1, .ref h2, .ref h3, .int a0, .int a1, .int a2])), (h3, .inl (cI, 16, .inl f_7))]) [0, 1] (by decide) rfl
      exact W.vret hx hb hr (fun t ht hW => ⟨⟨(), rfl, trivial, ⟨f_7, by rw [ht]; exact hP9, hD9⟩⟩, hS.F ht⟩) hS.2.2 dX1_look_17
def v_s_X1_pop : List Cond := Cond.code yX1_pop cX1_pop 1 (some .int) :: ([Cond.fieldLink RX1 25 "MayRings$Law" "top" "I", Cond.fieldLink RX1 15 "MayRings$Law" "stack" "[I"] ++ (wsX10 ++ ([])))
theorem k_s_X1_pop : GoodIn lw_tbl v_s_X1_pop := gd_c (List.mem_of_getElem? (i := 821) (by decide +kernel)) rfl (goodIn_app (gd_c (List.mem_of_getElem? (i := 187) (by decide +kernel)) rfl (gd_c (List.mem_of_getElem? (i := 184) (by decide +kernel)) rfl (gd_nil))) (goodIn_app kfX1 (gd_nil)))
set_option maxHeartbeats 2000000 in
set_option maxRecDepth 100000 in
theorem c_s_X1_pop (l : Launch) (dC : Nat → ClassId) (dI : Nat → Nat → Nat) (cB cI cJ cZ cP : ClassId) (h0 : Nat) (h1 : Nat) (h2 : Nat) (g1 : Nat → Int32) (h3 : Nat) (a0 : Int32) (a1 : Int32) (ha1 : rg (0) (40) a1) (a2 : Int32) (sz : Nat) : Met l yX1_pop v_s_X1_pop ({ frames := 0, cells := 0, slots := 0, locals := 0 }) (va_Pc [.ref h0] (fun U => U.heap.size = sz ∧ va_P (dC, dI) vwCl [(h0, .inr (1, [.ref h1, .ref h2, .ref h3, .int a0, .int a1, .int a2])), (h2, .inl (cI, 40, .inl g1))] U.heap ∧ va_K (dC, dI) vwCl (ty5 cB cI cJ cZ cP) U ∧ va_D (fun _ => True) [(h0, .inr (1, [.ref h1, .ref h2, .ref h3, .int a0, .int a1, .int a2])), (h2, .inl (cI, 40, .inl g1))])) (va_Qi (fun (r : Int32) (u9 : Unit) => True) (fun u9 t => ∃ (z0 : Int32), rg (0) (40) z0 ∧ va_P (dC, dI) vwCl [(h0, .inr (1, [.ref h1, .ref h2, .ref h3, .int a0, .int z0, .int a2])), (h2, .inl (cI, 40, .inl g1))] t.heap ∧ va_D (va_A [(h0, .inr (1, [.ref h1, .ref h2, .ref h3, .int a0, .int a1, .int a2])), (h2, .inl (cI, 40, .inl g1))] sz) [(h0, .inr (1, [.ref h1, .ref h2, .ref h3, .int a0, .int z0, .int a2])), (h2, .inl (cI, 40, .inl g1))]) (va_A [(h0, .inr (1, [.ref h1, .ref h2, .ref h3, .int a0, .int a1, .int a2])), (h2, .inl (cI, 40, .inl g1))] sz)) 0 0 (va_A [(h0, .inr (1, [.ref h1, .ref h2, .ref h3, .int a0, .int a1, .int a2])), (h2, .inl (cI, 40, .inl g1))] sz) := by
  refine Met.ofW (cc := cX1_pop) (maxL := 1) (ret := (some .int)) (by decide) rfl ?_
  intro p e s m args below meth c s₁ B hml hv
  obtain ⟨rfl, hsz, hP, hK, hD0⟩ := hv
  have hx := B.exec
  have hb := B.bytes
  have hr := B.returns
  have hts := atoms_spec (ws := v_s_X1_pop) B.pre
  have hown : s.vm.findClass RX1 = some m.cls := findClass_of_methodNamed B.named
  have hlocks := B.notSynchronized
  have hinX1 : ∀ w ∈ wsX10, w ∈ v_s_X1_pop := fun _ h => List.mem_cons_of_mem _ (List.mem_append_right _ (List.mem_append_left _ h))
  subst hsz
  have hD := hD0.self (sz := s.heap.size)
  generalize hAe : va_A [(h0, .inr (1, [.ref h1, .ref h2, .ref h3, .int a0, .int a1, .int a2])), (h2, .inl (cI, 40, .inl g1))] s.heap.size = A at hD ⊢
  have hA : ∀ q : Nat, s.heap.size ≤ q → A q := fun q h => by rw [← hAe]; exact Or.inr h
  have hP : va_P (dC, dI) vwCl [(h0, .inr (1, [.ref h1, .ref h2, .ref h3, .int a0, .int a1, .int a2])), (h2, .inl (cI, 40, .inl g1))] s.heap := hP
  have hl := lv_entry ([.ref h0]) (n := 1) (Nat.le_of_ble_eq_true rfl)
  rw [lg_entry_eq]
  generalize (lg_sl ([.ref h0]) ++ List.replicate (1 - (lg_sl ([.ref h0])).length) Slot.unset).toArray = ls at hl ⊢
  have hl : lv_has ls 1 [(0, .ref h0)] := hl
  refine W_gen (A := A) hP (fun H locs hP hS => ?_)
  refine lv_aload_n hx hb dX1_pop_0 rfl (lv_at hl 0 rfl) ?_
  refine va_get (D := (dC, dI)) (ci := 1) (v := .int a1) (C := RX1) (T := TX1) (N := 6) hx hb hts hinX1 hown hK hP 0 rfl rfl 4 (by decide) (hts (.fieldLink RX1 25 "MayRings$Law" "top" "I") (List.mem_of_getElem? (i := 1) rfl)) (fun _ h9 => h9) rfl dX1_pop_1 ?_
  refine lv_if_gt (tgt := 9) hx hb dX1_pop_4 (by decide) (fun c_1 => ?_) (fun c_1 => ?_)
  · skip
    have h_2 : rg (1) (40) a1 := by have ha := ha1; have hb_ := (rg_k (x := 0) (c := 0) (by decide)); simp only [rg, fa_lt, fa_le, fa_eq, (by decide : (0 : Int32).toInt = 0)] at ha hb_ c_1; simp only [rg]; omega
    refine lv_aload_n hx hb dX1_pop_9 rfl (lv_at hl 0 rfl) ?_
    refine lv_dup hx hb dX1_pop_10 rfl ?_
    refine va_get (D := (dC, dI)) (ci := 1) (v := .int a1) (C := RX1) (T := TX1) (N := 6) hx hb hts hinX1 hown hK hP 0 rfl rfl 4 (by decide) (hts (.fieldLink RX1 25 "MayRings$Law" "top" "I") (List.mem_of_getElem? (i := 1) rfl)) (fun _ h9 => h9) rfl dX1_pop_11 ?_
    refine lv_iconst (v := 1) hx hb dX1_pop_14 (by decide) ?_
    refine lv_isub hx hb dX1_pop_15 ?_
    refine lv_topi (fun x_3 ex_3 => ?_)
    have hx_3 : rg (0) (39) x_3 := by rw [ex_3]; exact rg_mono (rg_sub h_2 (rg_k (x := 1) (c := 1) (by decide)) (by decide) (by decide)) (by decide) (by decide)
    have qx_3 : x_3.toInt = a1.toInt + (-1) := by rw [ex_3]; exact rg_subE h_2 (rg_k (x := 1) (c := 1) (by decide)) (by decide) (by decide) trivial
    refine va_put (D := (dC, dI)) (ci := 1) (v := .int x_3) (ty := .int) (C := RX1) (T := TX1) (N := 6) hx hb hts hinX1 tyX1 tyX1_ok nmX1 hown hK hP hD hS 0 rfl rfl 4 (by decide) (hts (.fieldLink RX1 25 "MayRings$Law" "top" "I") (List.mem_of_getElem? (i := 1) rfl)) (fun _ h9 => h9) rfl (by decide +kernel) (rfl) (rfl) (Nat.le_of_ble_eq_true rfl) dX1_pop_16 (fun H locs hP hD hS => ?_)
    have hP : va_P (dC, dI) vwCl [(h0, .inr (1, [.ref h1, .ref h2, .ref h3, .int a0, .int x_3, .int a2])), (h2, .inl (cI, 40, .inl g1))] H := hP
    have hD : va_D A [(h0, .inr (1, [.ref h1, .ref h2, .ref h3, .int a0, .int x_3, .int a2])), (h2, .inl (cI, 40, .inl g1))] := hD
    refine lv_aload_n hx hb dX1_pop_19 rfl (lv_at hl 0 rfl) ?_
    refine va_get (D := (dC, dI)) (ci := 1) (v := .ref h2) (C := RX1) (T := TX1) (N := 6) hx hb hts hinX1 hown hK hP 0 rfl rfl 1 (by decide) (hts (.fieldLink RX1 15 "MayRings$Law" "stack" "[I") (List.mem_of_getElem? (i := 2) rfl)) (fun _ h9 => h9) rfl dX1_pop_20 ?_
    refine lv_aload_n hx hb dX1_pop_23 rfl (lv_at hl 0 rfl) ?_
    refine va_get (D := (dC, dI)) (ci := 1) (v := .int x_3) (C := RX1) (T := TX1) (N := 6) hx hb hts hinX1 hown hK hP 0 rfl rfl 4 (by decide) (hts (.fieldLink RX1 25 "MayRings$Law" "top" "I") (List.mem_of_getElem? (i := 1) rfl)) (fun _ h9 => h9) rfl dX1_pop_24 ?_
    refine va_iald hx hb hK hP 1 1 rfl rfl (rg_in (n := 40) (rg_mono hx_3 (by decide) (by decide))) dX1_pop_27 ?_
    refine lv_topi (fun x_4 ex_4 => ?_)
    have hP9 := hP.sub (ws' := [(h0, .inr (1, [.ref h1, .ref h2, .ref h3, .int a0, .int x_3, .int a2])), (h2, .inl (cI, 40, .inl g1))]) [0, 1] rfl
    have hD9 := hD.sub (ws' := [(h0, .inr (1, [.ref h1, .ref h2, .ref h3, .int a0, .int x_3, .int a2])), (h2, .inl (cI, 40, .inl g1))]) [0, 1] (by decide) rfl
    exact W.iret (v := x_4) hx hb hr (fun t ht hW => ⟨⟨x_4, (), rfl, trivial, ⟨x_3, (rg_mono hx_3 (by decide) (by decide)), by rw [ht]; exact hP9, hD9⟩⟩, hS.F ht⟩) hS.2.2 dX1_pop_28
  · skip
    have h_5 : rg (0) (0) a1 := by have ha := ha1; have hb_ := (rg_k (x := 0) (c := 0) (by decide)); simp only [rg, fa_lt, fa_le, fa_eq, (by decide : (0 : Int32).toInt = 0)] at ha hb_ c_1; simp only [rg]; omega
    refine lv_iconst (v := 0) hx hb dX1_pop_7 (by decide) ?_
    have hP9 := hP.sub (ws' := [(h0, .inr (1, [.ref h1, .ref h2, .ref h3, .int a0, .int a1, .int a2])), (h2, .inl (cI, 40, .inl g1))]) [0, 1] rfl
    have hD9 := hD.sub (ws' := [(h0, .inr (1, [.ref h1, .ref h2, .ref h3, .int a0, .int a1, .int a2])), (h2, .inl (cI, 40, .inl g1))]) [0, 1] (by decide) rfl
    exact W.iret (v := 0) hx hb hr (fun t ht hW => ⟨⟨0, (), rfl, trivial, ⟨a1, (rg_mono h_5 (by decide) (by decide)), by rw [ht]; exact hP9, hD9⟩⟩, hS.F ht⟩) hS.2.2 dX1_pop_8
def v_s_X1_push : List Cond := Cond.code yX1_push cX1_push 2 none :: ([Cond.fieldLink RX1 25 "MayRings$Law" "top" "I", Cond.fieldLink RX1 15 "MayRings$Law" "stack" "[I"] ++ (wsX10 ++ ([])))
theorem k_s_X1_push : GoodIn lw_tbl v_s_X1_push := gd_c (List.mem_of_getElem? (i := 817) (by decide +kernel)) rfl (goodIn_app (gd_c (List.mem_of_getElem? (i := 187) (by decide +kernel)) rfl (gd_c (List.mem_of_getElem? (i := 184) (by decide +kernel)) rfl (gd_nil))) (goodIn_app kfX1 (gd_nil)))
set_option maxHeartbeats 2000000 in
set_option maxRecDepth 100000 in
theorem c_s_X1_push (l : Launch) (dC : Nat → ClassId) (dI : Nat → Nat → Nat) (cB cI cJ cZ cP : ClassId) (h0 : Nat) (h1 : Nat) (h2 : Nat) (g1 : Nat → Int32) (h3 : Nat) (a0 : Int32) (a1 : Int32) (ha1 : rg (0) (40) a1) (a2 : Int32) (p0 : Int32) (sz : Nat) : Met l yX1_push v_s_X1_push ({ frames := 0, cells := 0, slots := 0, locals := 0 }) (va_Pc [.ref h0, .int p0] (fun U => U.heap.size = sz ∧ va_P (dC, dI) vwCl [(h0, .inr (1, [.ref h1, .ref h2, .ref h3, .int a0, .int a1, .int a2])), (h2, .inl (cI, 40, .inl g1))] U.heap ∧ va_K (dC, dI) vwCl (ty5 cB cI cJ cZ cP) U ∧ va_D (fun _ => True) [(h0, .inr (1, [.ref h1, .ref h2, .ref h3, .int a0, .int a1, .int a2])), (h2, .inl (cI, 40, .inl g1))])) (va_Qv (fun _ : Unit => True) (fun _ t => ∃ (z0 : Int32) (z1 : Nat → Int32), rg (0) (40) z0 ∧ va_P (dC, dI) vwCl [(h0, .inr (1, [.ref h1, .ref h2, .ref h3, .int a0, .int z0, .int a2])), (h2, .inl (cI, 40, .inl z1))] t.heap ∧ va_D (va_A [(h0, .inr (1, [.ref h1, .ref h2, .ref h3, .int a0, .int a1, .int a2])), (h2, .inl (cI, 40, .inl g1))] sz) [(h0, .inr (1, [.ref h1, .ref h2, .ref h3, .int a0, .int z0, .int a2])), (h2, .inl (cI, 40, .inl z1))]) (va_A [(h0, .inr (1, [.ref h1, .ref h2, .ref h3, .int a0, .int a1, .int a2])), (h2, .inl (cI, 40, .inl g1))] sz)) 0 0 (va_A [(h0, .inr (1, [.ref h1, .ref h2, .ref h3, .int a0, .int a1, .int a2])), (h2, .inl (cI, 40, .inl g1))] sz) := by
  refine Met.ofW (cc := cX1_push) (maxL := 2) (ret := none) (by decide) rfl ?_
  intro p e s m args below meth c s₁ B hml hv
  obtain ⟨rfl, hsz, hP, hK, hD0⟩ := hv
  have hx := B.exec
  have hb := B.bytes
  have hr := B.returns
  have hts := atoms_spec (ws := v_s_X1_push) B.pre
  have hown : s.vm.findClass RX1 = some m.cls := findClass_of_methodNamed B.named
  have hlocks := B.notSynchronized
  have hinX1 : ∀ w ∈ wsX10, w ∈ v_s_X1_push := fun _ h => List.mem_cons_of_mem _ (List.mem_append_right _ (List.mem_append_left _ h))
  subst hsz
  have hD := hD0.self (sz := s.heap.size)
  generalize hAe : va_A [(h0, .inr (1, [.ref h1, .ref h2, .ref h3, .int a0, .int a1, .int a2])), (h2, .inl (cI, 40, .inl g1))] s.heap.size = A at hD ⊢
  have hA : ∀ q : Nat, s.heap.size ≤ q → A q := fun q h => by rw [← hAe]; exact Or.inr h
  have hP : va_P (dC, dI) vwCl [(h0, .inr (1, [.ref h1, .ref h2, .ref h3, .int a0, .int a1, .int a2])), (h2, .inl (cI, 40, .inl g1))] s.heap := hP
  have hl := lv_entry ([.ref h0, .int p0]) (n := 2) (Nat.le_of_ble_eq_true rfl)
  rw [lg_entry_eq]
  generalize (lg_sl ([.ref h0, .int p0]) ++ List.replicate (2 - (lg_sl ([.ref h0, .int p0])).length) Slot.unset).toArray = ls at hl ⊢
  have hl : lv_has ls 2 [(0, .ref h0), (1, .int p0)] := hl
  refine W_gen (A := A) hP (fun H locs hP hS => ?_)
  refine lv_aload_n hx hb dX1_push_0 rfl (lv_at hl 0 rfl) ?_
  refine va_get (D := (dC, dI)) (ci := 1) (v := .int a1) (C := RX1) (T := TX1) (N := 6) hx hb hts hinX1 hown hK hP 0 rfl rfl 4 (by decide) (hts (.fieldLink RX1 25 "MayRings$Law" "top" "I") (List.mem_of_getElem? (i := 1) rfl)) (fun _ h9 => h9) rfl dX1_push_1 ?_
  refine lv_bipush (v := 40) hx hb dX1_push_4 (by decide) ?_
  refine lv_icmp_ge (tgt := 29) hx hb dX1_push_6 (by decide) (fun c_1 => ?_) (fun c_1 => ?_)
  · skip
    have h_2 : rg (40) (40) a1 := by have ha := ha1; have hb_ := (rg_k (x := 40) (c := 40) (by decide)); simp only [rg, fa_lt, fa_le, fa_eq, (by decide : (40 : Int32).toInt = 40)] at ha hb_ c_1; simp only [rg]; omega
    have hP9 := hP.sub (ws' := [(h0, .inr (1, [.ref h1, .ref h2, .ref h3, .int a0, .int a1, .int a2])), (h2, .inl (cI, 40, .inl g1))]) [0, 1] rfl
    have hD9 := hD.sub (ws' := [(h0, .inr (1, [.ref h1, .ref h2, .ref h3, .int a0, .int a1, .int a2])), (h2, .inl (cI, 40, .inl g1))]) [0, 1] (by decide) rfl
    exact W.vret hx hb hr (fun t ht hW => ⟨⟨(), rfl, trivial, ⟨a1, g1, (rg_mono h_2 (by decide) (by decide)), by rw [ht]; exact hP9, hD9⟩⟩, hS.F ht⟩) hS.2.2 dX1_push_29
  · skip
    have h_3 : rg (0) (39) a1 := by have ha := ha1; have hb_ := (rg_k (x := 40) (c := 40) (by decide)); simp only [rg, fa_lt, fa_le, fa_eq, (by decide : (40 : Int32).toInt = 40)] at ha hb_ c_1; simp only [rg]; omega
    refine lv_aload_n hx hb dX1_push_9 rfl (lv_at hl 0 rfl) ?_
    refine va_get (D := (dC, dI)) (ci := 1) (v := .ref h2) (C := RX1) (T := TX1) (N := 6) hx hb hts hinX1 hown hK hP 0 rfl rfl 1 (by decide) (hts (.fieldLink RX1 15 "MayRings$Law" "stack" "[I") (List.mem_of_getElem? (i := 2) rfl)) (fun _ h9 => h9) rfl dX1_push_10 ?_
    refine lv_aload_n hx hb dX1_push_13 rfl (lv_at hl 0 rfl) ?_
    refine va_get (D := (dC, dI)) (ci := 1) (v := .int a1) (C := RX1) (T := TX1) (N := 6) hx hb hts hinX1 hown hK hP 0 rfl rfl 4 (by decide) (hts (.fieldLink RX1 25 "MayRings$Law" "top" "I") (List.mem_of_getElem? (i := 1) rfl)) (fun _ h9 => h9) rfl dX1_push_14 ?_
    refine lv_iload_n hx hb dX1_push_17 rfl (lv_at hl 1 rfl) ?_
    refine va_iast hx hb hK hP hD hS 1 1 rfl rfl (rg_in (n := 40) (rg_mono h_3 (by decide) (by decide))) dX1_push_18 (fun H locs hP hD hS => ?_)
    obtain ⟨f_4, ef_4⟩ : ∃ f : Nat → Int32, f = upd g1 (a1 : Int32).toNatClampNeg p0 := ⟨_, rfl⟩
    rw [← ef_4] at hP hD
    clear ef_4
    have hP : va_P (dC, dI) vwCl [(h0, .inr (1, [.ref h1, .ref h2, .ref h3, .int a0, .int a1, .int a2])), (h2, .inl (cI, 40, .inl f_4))] H := hP
    have hD : va_D A [(h0, .inr (1, [.ref h1, .ref h2, .ref h3, .int a0, .int a1, .int a2])), (h2, .inl (cI, 40, .inl f_4))] := hD
    refine lv_aload_n hx hb dX1_push_19 rfl (lv_at hl 0 rfl) ?_
    refine lv_dup hx hb dX1_push_20 rfl ?_
    refine va_get (D := (dC, dI)) (ci := 1) (v := .int a1) (C := RX1) (T := TX1) (N := 6) hx hb hts hinX1 hown hK hP 0 rfl rfl 4 (by decide) (hts (.fieldLink RX1 25 "MayRings$Law" "top" "I") (List.mem_of_getElem? (i := 1) rfl)) (fun _ h9 => h9) rfl dX1_push_21 ?_
    refine lv_iconst (v := 1) hx hb dX1_push_24 (by decide) ?_
    refine lv_iadd hx hb dX1_push_25 ?_
    refine lv_topi (fun x_5 ex_5 => ?_)
    have hx_5 : rg (1) (40) x_5 := by rw [ex_5]; exact rg_mono (rg_add h_3 (rg_k (x := 1) (c := 1) (by decide)) (by decide) (by decide)) (by decide) (by decide)
    have qx_5 : x_5.toInt = a1.toInt + (1) := by rw [ex_5]; exact rg_addE h_3 (rg_k (x := 1) (c := 1) (by decide)) (by decide) (by decide) trivial
    refine va_put (D := (dC, dI)) (ci := 1) (v := .int x_5) (ty := .int) (C := RX1) (T := TX1) (N := 6) hx hb hts hinX1 tyX1 tyX1_ok nmX1 hown hK hP hD hS 0 rfl rfl 4 (by decide) (hts (.fieldLink RX1 25 "MayRings$Law" "top" "I") (List.mem_of_getElem? (i := 1) rfl)) (fun _ h9 => h9) rfl (by decide +kernel) (rfl) (rfl) (Nat.le_of_ble_eq_true rfl) dX1_push_26 (fun H locs hP hD hS => ?_)
    have hP : va_P (dC, dI) vwCl [(h0, .inr (1, [.ref h1, .ref h2, .ref h3, .int a0, .int x_5, .int a2])), (h2, .inl (cI, 40, .inl f_4))] H := hP
    have hD : va_D A [(h0, .inr (1, [.ref h1, .ref h2, .ref h3, .int a0, .int x_5, .int a2])), (h2, .inl (cI, 40, .inl f_4))] := hD
    have hP9 := hP.sub (ws' := [(h0, .inr (1, [.ref h1, .ref h2, .ref h3, .int a0, .int x_5, .int a2])), (h2, .inl (cI, 40, .inl f_4))]) [0, 1] rfl
    have hD9 := hD.sub (ws' := [(h0, .inr (1, [.ref h1, .ref h2, .ref h3, .int a0, .int x_5, .int a2])), (h2, .inl (cI, 40, .inl f_4))]) [0, 1] (by decide) rfl
    exact W.vret hx hb hr (fun t ht hW => ⟨⟨(), rfl, trivial, ⟨x_5, f_4, (rg_mono hx_5 (by decide) (by decide)), by rw [ht]; exact hP9, hD9⟩⟩, hS.F ht⟩) hS.2.2 dX1_push_29
def v_s_X1_value : List Cond := Cond.code yX1_value cX1_value 4 (some .int) :: ([Cond.fieldLink RX1 25 "MayRings$Law" "top" "I", Cond.fieldLink RX1 21 "MayRings$Law" "length" "I", Cond.methodLink RX1 44 yX1_pop, Cond.instanceMethod yX1_pop, Cond.selects RX1 yX1_pop yX1_pop, Cond.initialized RX1, Cond.fieldLink RX1 11 "MayRings$Law" "codes" "[I", Cond.fieldLink RX1 18 "MayRings$Law" "facts" "[I", Cond.methodLink RX1 41 yX1_push, Cond.instanceMethod yX1_push, Cond.selects RX1 yX1_push yX1_push, Cond.methodLink RX1 48 yX1_joined, Cond.static yX1_joined] ++ (wsX10 ++ (v_s_X1_pop ++ (v_s_X1_push ++ (v_s_X1_joined ++ ([]))))))
theorem k_s_X1_value : GoodIn lw_tbl v_s_X1_value := gd_c (List.mem_of_getElem? (i := 813) (by decide +kernel)) rfl (goodIn_app (gd_c (List.mem_of_getElem? (i := 187) (by decide +kernel)) rfl (gd_c (List.mem_of_getElem? (i := 186) (by decide +kernel)) rfl (gd_c (List.mem_of_getElem? (i := 818) (by decide +kernel)) rfl (gd_c (List.mem_of_getElem? (i := 820) (by decide +kernel)) rfl (gd_c (List.mem_of_getElem? (i := 27) (by decide +kernel)) rfl (gd_c (List.mem_of_getElem? (i := 133) (by decide +kernel)) rfl (gd_c (List.mem_of_getElem? (i := 183) (by decide +kernel)) rfl (gd_c (List.mem_of_getElem? (i := 185) (by decide +kernel)) rfl (gd_c (List.mem_of_getElem? (i := 814) (by decide +kernel)) rfl (gd_c (List.mem_of_getElem? (i := 816) (by decide +kernel)) rfl (gd_c (List.mem_of_getElem? (i := 26) (by decide +kernel)) rfl (gd_c (List.mem_of_getElem? (i := 822) (by decide +kernel)) rfl (gd_c (List.mem_of_getElem? (i := 823) (by decide +kernel)) rfl (gd_nil)))))))))))))) (goodIn_app kfX1 (goodIn_app k_s_X1_pop (goodIn_app k_s_X1_push (goodIn_app k_s_X1_joined (gd_nil))))))
set_option maxHeartbeats 2000000 in
set_option maxRecDepth 100000 in
theorem c_s_X1_value (l : Launch) (dC : Nat → ClassId) (dI : Nat → Nat → Nat) (cB cI cJ cZ cP : ClassId) (h0 : Nat) (h1 : Nat) (g0 : Nat → Int32) (h2 : Nat) (g1 : Nat → Int32) (h3 : Nat) (g2 : Nat → Int32) (a0 : Int32) (ha0 : rg (0) (360) a0) (a1 : Int32) (a2 : Int32) (sz : Nat) : Met l yX1_value v_s_X1_value ({ frames := 1, cells := 0, slots := 0, locals := 22 }) (va_Pc [.ref h0] (fun U => U.heap.size = sz ∧ va_P (dC, dI) vwCl [(h0, .inr (1, [.ref h1, .ref h2, .ref h3, .int a0, .int a1, .int a2])), (h1, .inl (cI, 360, .inl g0)), (h2, .inl (cI, 40, .inl g1)), (h3, .inl (cI, 16, .inl g2))] U.heap ∧ va_K (dC, dI) vwCl (ty5 cB cI cJ cZ cP) U ∧ va_D (fun _ => True) [(h0, .inr (1, [.ref h1, .ref h2, .ref h3, .int a0, .int a1, .int a2])), (h1, .inl (cI, 360, .inl g0)), (h2, .inl (cI, 40, .inl g1)), (h3, .inl (cI, 16, .inl g2))])) (va_Qi (fun (r : Int32) (u9 : Unit) => True) (fun u9 t => ∃ (z0 : Int32) (z1 : Nat → Int32), rg (0) (40) z0 ∧ va_P (dC, dI) vwCl [(h0, .inr (1, [.ref h1, .ref h2, .ref h3, .int a0, .int z0, .int a2])), (h1, .inl (cI, 360, .inl g0)), (h2, .inl (cI, 40, .inl z1)), (h3, .inl (cI, 16, .inl g2))] t.heap ∧ va_D (va_A [(h0, .inr (1, [.ref h1, .ref h2, .ref h3, .int a0, .int a1, .int a2])), (h1, .inl (cI, 360, .inl g0)), (h2, .inl (cI, 40, .inl g1)), (h3, .inl (cI, 16, .inl g2))] sz) [(h0, .inr (1, [.ref h1, .ref h2, .ref h3, .int a0, .int z0, .int a2])), (h1, .inl (cI, 360, .inl g0)), (h2, .inl (cI, 40, .inl z1)), (h3, .inl (cI, 16, .inl g2))]) (va_A [(h0, .inr (1, [.ref h1, .ref h2, .ref h3, .int a0, .int a1, .int a2])), (h1, .inl (cI, 360, .inl g0)), (h2, .inl (cI, 40, .inl g1)), (h3, .inl (cI, 16, .inl g2))] sz)) 0 0 (va_A [(h0, .inr (1, [.ref h1, .ref h2, .ref h3, .int a0, .int a1, .int a2])), (h1, .inl (cI, 360, .inl g0)), (h2, .inl (cI, 40, .inl g1)), (h3, .inl (cI, 16, .inl g2))] sz) := by
  refine Met.ofW (cc := cX1_value) (maxL := 4) (ret := (some .int)) (by decide) rfl ?_
  intro p e s m args below meth c s₁ B hml hv
  obtain ⟨rfl, hsz, hP, hK, hD0⟩ := hv
  have hx := B.exec
  have hb := B.bytes
  have hr := B.returns
  have hts := atoms_spec (ws := v_s_X1_value) B.pre
  have hown : s.vm.findClass RX1 = some m.cls := findClass_of_methodNamed B.named
  have hlocks := B.notSynchronized
  have hinX1 : ∀ w ∈ wsX10, w ∈ v_s_X1_value := fun _ h => List.mem_cons_of_mem _ (List.mem_append_right _ (List.mem_append_left _ h))
  subst hsz
  have hD := hD0.self (sz := s.heap.size)
  generalize hAe : va_A [(h0, .inr (1, [.ref h1, .ref h2, .ref h3, .int a0, .int a1, .int a2])), (h1, .inl (cI, 360, .inl g0)), (h2, .inl (cI, 40, .inl g1)), (h3, .inl (cI, 16, .inl g2))] s.heap.size = A at hD ⊢
  have hA : ∀ q : Nat, s.heap.size ≤ q → A q := fun q h => by rw [← hAe]; exact Or.inr h
  have hP : va_P (dC, dI) vwCl [(h0, .inr (1, [.ref h1, .ref h2, .ref h3, .int a0, .int a1, .int a2])), (h1, .inl (cI, 360, .inl g0)), (h2, .inl (cI, 40, .inl g1)), (h3, .inl (cI, 16, .inl g2))] s.heap := hP
  have hl := lv_entry ([.ref h0]) (n := 4) (Nat.le_of_ble_eq_true rfl)
  rw [lg_entry_eq]
  generalize (lg_sl ([.ref h0]) ++ List.replicate (4 - (lg_sl ([.ref h0])).length) Slot.unset).toArray = ls at hl ⊢
  have hl : lv_has ls 4 [(0, .ref h0)] := hl
  refine W_gen (A := A) hP (fun H locs hP hS => ?_)
  refine lv_aload_n hx hb dX1_value_0 rfl (lv_at hl 0 rfl) ?_
  refine lv_iconst (v := 0) hx hb dX1_value_1 (by decide) ?_
  refine va_put (D := (dC, dI)) (ci := 1) (v := .int 0) (ty := .int) (C := RX1) (T := TX1) (N := 6) hx hb hts hinX1 tyX1 tyX1_ok nmX1 hown hK hP hD hS 0 rfl rfl 4 (by decide) (hts (.fieldLink RX1 25 "MayRings$Law" "top" "I") (List.mem_of_getElem? (i := 1) rfl)) (fun _ h9 => h9) rfl (by decide +kernel) (rfl) (rfl) (Nat.le_of_ble_eq_true rfl) dX1_value_2 (fun H locs hP hD hS => ?_)
  have hP : va_P (dC, dI) vwCl [(h0, .inr (1, [.ref h1, .ref h2, .ref h3, .int a0, .int 0, .int a2])), (h1, .inl (cI, 360, .inl g0)), (h2, .inl (cI, 40, .inl g1)), (h3, .inl (cI, 16, .inl g2))] H := hP
  have hD : va_D A [(h0, .inr (1, [.ref h1, .ref h2, .ref h3, .int a0, .int 0, .int a2])), (h1, .inl (cI, 360, .inl g0)), (h2, .inl (cI, 40, .inl g1)), (h3, .inl (cI, 16, .inl g2))] := hD
  refine lv_iconst (v := 0) hx hb dX1_value_5 (by decide) ?_
  refine lv_istore_n (lv' := [(1, .int 0), (0, .ref h0)]) hx hb dX1_value_6 rfl hl (by decide) rfl (fun ls hl => ?_)
  refine W_loopM (σ := (Nat → Int32) × Int32 × Int32) (fun u H locs ls => va_P (dC, dI) vwCl [(h0, .inr (1, [.ref h1, .ref h2, .ref h3, .int a0, .int u.2.2, .int a2])), (h1, .inl (cI, 360, .inl g0)), (h2, .inl (cI, 40, .inl u.1)), (h3, .inl (cI, 16, .inl g2))] H ∧ va_D A [(h0, .inr (1, [.ref h1, .ref h2, .ref h3, .int a0, .int u.2.2, .int a2])), (h1, .inl (cI, 360, .inl g0)), (h2, .inl (cI, 40, .inl u.1)), (h3, .inl (cI, 16, .inl g2))] ∧ va_S A s.heap H locs ∧ lv_has ls 4 [(1, .int u.2.1), (0, .ref h0)] ∧ rg (0) (360) u.2.1 ∧ rg (0) (40) u.2.2) (fun u => ((360) - u.2.1.toInt).toNat) 7 [] ?_ (g1, 0, 0) H locs ls ⟨hP, hD, hS, hl, (rg_mono (rg_k (x := 0) (c := 0) (by decide)) (by decide) (by decide)), (rg_mono (rg_k (x := 0) (c := 0) (by decide)) (by decide) (by decide))⟩
  rintro ⟨f_2199, x_2200, x_2201⟩ H locs ls ⟨hP, hD, hS, hl, hx_2200, hx_2201⟩ ih_2268
  have hP : va_P (dC, dI) vwCl [(h0, .inr (1, [.ref h1, .ref h2, .ref h3, .int a0, .int x_2201, .int a2])), (h1, .inl (cI, 360, .inl g0)), (h2, .inl (cI, 40, .inl f_2199)), (h3, .inl (cI, 16, .inl g2))] H := hP
  have hD : va_D A [(h0, .inr (1, [.ref h1, .ref h2, .ref h3, .int a0, .int x_2201, .int a2])), (h1, .inl (cI, 360, .inl g0)), (h2, .inl (cI, 40, .inl f_2199)), (h3, .inl (cI, 16, .inl g2))] := hD
  have hl : lv_has ls 4 [(1, .int x_2200), (0, .ref h0)] := hl
  have hx_2200 : rg (0) (360) x_2200 := hx_2200
  have hx_2201 : rg (0) (40) x_2201 := hx_2201
  refine lv_iload_n hx hb dX1_value_7 rfl (lv_at hl 0 rfl) ?_
  refine lv_aload_n hx hb dX1_value_8 rfl (lv_at hl 1 rfl) ?_
  refine va_get (D := (dC, dI)) (ci := 1) (v := .int a0) (C := RX1) (T := TX1) (N := 6) hx hb hts hinX1 hown hK hP 0 rfl rfl 3 (by decide) (hts (.fieldLink RX1 21 "MayRings$Law" "length" "I") (List.mem_of_getElem? (i := 2) rfl)) (fun _ h9 => h9) rfl dX1_value_9 ?_
  refine lv_icmp_ge (tgt := 120) hx hb dX1_value_12 (by decide) (fun c_2269 => ?_) (fun c_2269 => ?_)
  · skip
    refine lv_aload_n hx hb dX1_value_120 rfl (lv_at hl 1 rfl) ?_
    have hPc := hP.sub (ws' := [(h0, .inr (1, [.ref h1, .ref h2, .ref h3, .int a0, .int x_2201, .int a2])), (h2, .inl (cI, 40, .inl f_2199))]) [0, 2] rfl
    have hDc := hD.sub (ws' := [(h0, .inr (1, [.ref h1, .ref h2, .ref h3, .int a0, .int x_2201, .int a2])), (h2, .inl (cI, 40, .inl f_2199))]) [0, 2] (by decide) rfl
    have hFc := va_free (wc := [(h0, .inr (1, [.ref h1, .ref h2, .ref h3, .int a0, .int x_2201, .int a2])), (h2, .inl (cI, 40, .inl f_2199))]) hD hS hA [0, 2] rfl
    refine va_calli (va_runV (As := []) (rest := []) ⟨hx, hb, hml, hown, hts⟩ (c_s_X1_pop l dC dI cB cI cJ cZ cP h0 h1 h2 f_2199 h3 a0 x_2201 (rg_mono hx_2201 (by decide) (by decide)) a2 H.size) (cwV 0 hts (gd_V (List.mem_of_getElem? (i := 3) rfl) (List.mem_of_getElem? (i := 4) rfl) (List.mem_of_getElem? (i := 5) rfl) (List.mem_of_getElem? (i := 6) rfl) (gd_mono k_s_X1_pop (fun _ h => List.mem_cons_of_mem _ (List.mem_append_right _ (List.mem_append_right _ (List.mem_append_left _ h)))))) rfl rfl rfl (by decide +kernel) ⟨Nat.le_of_ble_eq_true rfl, Nat.le_of_ble_eq_true rfl⟩) ⟨fun a U g mk q => by obtain ⟨q0, q1, qP, qK, qD⟩ := q; exact ⟨q0, q1, qP, va_K.moved (u := U) (U := U.calling g mk a) (Vm.Alike.refl U.vm) qK, qD⟩, va_recv hK hPc (ci := 1) (q0 := 0) rfl rfl, fun U hU hW => ⟨rfl, by rw [hU], by rw [hU]; exact hPc, va_K.moved hW.alike hK, hDc.weaken (fun _ _ _ _ => trivial)⟩⟩ rfl rfl hl.1 rfl (lv_room (Nat.le_of_ble_eq_true rfl)) dX1_value_121 ⟨Nat.le_of_ble_eq_true rfl, Nat.le_of_ble_eq_true rfl⟩) hS (fun q _ h => hFc q h) hFc (fun r_2270 u t H1 locs ht hvm hw hB hz1 hk1 hS => ?_)
    obtain ⟨x_2271, hx_2271, hP1, hD1⟩ := hB
    rw [ht] at hP1
    obtain ⟨hP, hD⟩ := va_join (wr := [(h1, .inl (cI, 360, .inl g0)), (h3, .inl (cI, 16, .inl g2))]) (w1 := [(h0, .inr (1, [.ref h1, .ref h2, .ref h3, .int a0, .int x_2271, .int a2])), (h2, .inl (cI, 40, .inl f_2199))]) hP hD [0, 2] [1, 3] rfl rfl (by decide) (by decide) hk1 hFc hP1 hD1
    generalize H1 = H at hP hS ⊢
    have hP : va_P (dC, dI) vwCl [(h1, .inl (cI, 360, .inl g0)), (h3, .inl (cI, 16, .inl g2)), (h0, .inr (1, [.ref h1, .ref h2, .ref h3, .int a0, .int x_2271, .int a2])), (h2, .inl (cI, 40, .inl f_2199))] H := hP
    have hD : va_D A [(h1, .inl (cI, 360, .inl g0)), (h3, .inl (cI, 16, .inl g2)), (h0, .inr (1, [.ref h1, .ref h2, .ref h3, .int a0, .int x_2271, .int a2])), (h2, .inl (cI, 40, .inl f_2199))] := hD
    have hP9 := hP.sub (ws' := [(h0, .inr (1, [.ref h1, .ref h2, .ref h3, .int a0, .int x_2271, .int a2])), (h1, .inl (cI, 360, .inl g0)), (h2, .inl (cI, 40, .inl f_2199)), (h3, .inl (cI, 16, .inl g2))]) [2, 0, 3, 1] rfl
    have hD9 := hD.sub (ws' := [(h0, .inr (1, [.ref h1, .ref h2, .ref h3, .int a0, .int x_2271, .int a2])), (h1, .inl (cI, 360, .inl g0)), (h2, .inl (cI, 40, .inl f_2199)), (h3, .inl (cI, 16, .inl g2))]) [2, 0, 3, 1] (by decide) rfl
    exact W.iret (v := r_2270) hx hb hr (fun t ht hW => ⟨⟨r_2270, (), rfl, trivial, ⟨x_2271, f_2199, (rg_mono hx_2271 (by decide) (by decide)), by rw [ht]; exact hP9, hD9⟩⟩, hS.F ht⟩) hS.2.2 dX1_value_124
  · skip
    have h_2272 : rg (0) (359) x_2200 := by have ha := hx_2200; have hb_ := ha0; simp only [rg, fa_lt, fa_le, fa_eq] at ha hb_ c_2269; simp only [rg]; omega
    have h_2273 : rg (1) (360) a0 := by have ha := hx_2200; have hb_ := ha0; simp only [rg, fa_lt, fa_le, fa_eq] at ha hb_ c_2269; simp only [rg]; omega
    refine lv_aload_n hx hb dX1_value_15 rfl (lv_at hl 1 rfl) ?_
    refine va_get (D := (dC, dI)) (ci := 1) (v := .ref h1) (C := RX1) (T := TX1) (N := 6) hx hb hts hinX1 hown hK hP 0 rfl rfl 0 (by decide) (hts (.fieldLink RX1 11 "MayRings$Law" "codes" "[I") (List.mem_of_getElem? (i := 7) rfl)) (fun _ h9 => h9) rfl dX1_value_16 ?_
    refine lv_iload_n hx hb dX1_value_19 rfl (lv_at hl 0 rfl) ?_
    refine va_iald hx hb hK hP 1 1 rfl rfl (rg_in (n := 360) (rg_mono h_2272 (by decide) (by decide))) dX1_value_20 ?_
    refine lv_topi (fun x_2274 ex_2274 => ?_)
    refine lv_ineg hx hb dX1_value_21 ?_
    refine lv_topi (fun x_2275 ex_2275 => ?_)
    clear ex_2275
    refine lv_istore_n (lv' := [(2, .int x_2275), (1, .int x_2200), (0, .ref h0)]) hx hb dX1_value_22 rfl hl (by decide) rfl (fun ls hl => ?_)
    refine lv_iload_n hx hb dX1_value_23 rfl (lv_at hl 0 rfl) ?_
    refine lv_if_gt (tgt := 40) hx hb dX1_value_24 (by decide) (fun c_2276 => ?_) (fun c_2276 => ?_)
    · skip
      have h_2277 : rg (1) (2147483647) x_2275 := by have ha := (rg_any x_2275); have hb_ := (rg_k (x := 0) (c := 0) (by decide)); simp only [rg, fa_lt, fa_le, fa_eq, (by decide : (0 : Int32).toInt = 0)] at ha hb_ c_2276; simp only [rg]; omega
      refine lv_iload_n hx hb dX1_value_40 rfl (lv_at hl 0 rfl) ?_
      refine lv_bipush (v := 6) hx hb dX1_value_41 (by decide) ?_
      refine lv_icmp_eq (tgt := 58) hx hb dX1_value_43 (by decide) (fun c_2278 => ?_) (fun c_2278 => ?_)
      · skip
        have h_2279 : rg (6) (6) x_2275 := by have ha := h_2277; have hb_ := (rg_k (x := 6) (c := 6) (by decide)); simp only [rg, fa_lt, fa_le, fa_eq, (by decide : (6 : Int32).toInt = 6)] at ha hb_ c_2278; simp only [rg]; omega
        refine lv_aload_n hx hb dX1_value_58 rfl (lv_at hl 2 rfl) ?_
        refine lv_aload_n hx hb dX1_value_59 rfl (lv_at hl 2 rfl) ?_
        refine va_get (D := (dC, dI)) (ci := 1) (v := .ref h3) (C := RX1) (T := TX1) (N := 6) hx hb hts hinX1 hown hK hP 0 rfl rfl 2 (by decide) (hts (.fieldLink RX1 18 "MayRings$Law" "facts" "[I") (List.mem_of_getElem? (i := 8) rfl)) (fun _ h9 => h9) rfl dX1_value_60 ?_
        refine lv_iload_n hx hb dX1_value_63 rfl (lv_at hl 0 rfl) ?_
        refine va_iald hx hb hK hP 3 1 rfl rfl (rg_in (n := 16) (rg_mono h_2279 (by decide) (by decide))) dX1_value_64 ?_
        refine lv_topi (fun x_2280 ex_2280 => ?_)
        have hPc := hP.sub (ws' := [(h0, .inr (1, [.ref h1, .ref h2, .ref h3, .int a0, .int x_2201, .int a2])), (h2, .inl (cI, 40, .inl f_2199))]) [0, 2] rfl
        have hDc := hD.sub (ws' := [(h0, .inr (1, [.ref h1, .ref h2, .ref h3, .int a0, .int x_2201, .int a2])), (h2, .inl (cI, 40, .inl f_2199))]) [0, 2] (by decide) rfl
        have hFc := va_free (wc := [(h0, .inr (1, [.ref h1, .ref h2, .ref h3, .int a0, .int x_2201, .int a2])), (h2, .inl (cI, 40, .inl f_2199))]) hD hS hA [0, 2] rfl
        refine va_callv (va_runV (As := [.int x_2280]) (rest := []) ⟨hx, hb, hml, hown, hts⟩ (c_s_X1_push l dC dI cB cI cJ cZ cP h0 h1 h2 f_2199 h3 a0 x_2201 (rg_mono hx_2201 (by decide) (by decide)) a2 x_2280 H.size) (cwV 1 hts (gd_V (List.mem_of_getElem? (i := 9) rfl) (List.mem_of_getElem? (i := 10) rfl) (List.mem_of_getElem? (i := 11) rfl) (List.mem_of_getElem? (i := 6) rfl) (gd_mono k_s_X1_push (fun _ h => List.mem_cons_of_mem _ (List.mem_append_right _ (List.mem_append_right _ (List.mem_append_right _ (List.mem_append_left _ h))))))) rfl rfl rfl (by decide +kernel) ⟨Nat.le_of_ble_eq_true rfl, Nat.le_of_ble_eq_true rfl⟩) ⟨fun a U g mk q => by obtain ⟨q0, q1, qP, qK, qD⟩ := q; exact ⟨q0, q1, qP, va_K.moved (u := U) (U := U.calling g mk a) (Vm.Alike.refl U.vm) qK, qD⟩, va_recv hK hPc (ci := 1) (q0 := 0) rfl rfl, fun U hU hW => ⟨rfl, by rw [hU], by rw [hU]; exact hPc, va_K.moved hW.alike hK, hDc.weaken (fun _ _ _ _ => trivial)⟩⟩ rfl rfl hl.1 rfl (lv_room (Nat.le_of_ble_eq_true rfl)) dX1_value_65 ⟨Nat.le_of_ble_eq_true rfl, Nat.le_of_ble_eq_true rfl⟩) hS (fun q _ h => hFc q h) hFc (fun u t H1 locs ht hvm hw hB hz1 hk1 hS => ?_)
        obtain ⟨x_2282, f_2283, hx_2282, hP1, hD1⟩ := hB
        rw [ht] at hP1
        obtain ⟨hP, hD⟩ := va_join (wr := [(h1, .inl (cI, 360, .inl g0)), (h3, .inl (cI, 16, .inl g2))]) (w1 := [(h0, .inr (1, [.ref h1, .ref h2, .ref h3, .int a0, .int x_2282, .int a2])), (h2, .inl (cI, 40, .inl f_2283))]) hP hD [0, 2] [1, 3] rfl rfl (by decide) (by decide) hk1 hFc hP1 hD1
        generalize H1 = H at hP hS ⊢
        have hP : va_P (dC, dI) vwCl [(h1, .inl (cI, 360, .inl g0)), (h3, .inl (cI, 16, .inl g2)), (h0, .inr (1, [.ref h1, .ref h2, .ref h3, .int a0, .int x_2282, .int a2])), (h2, .inl (cI, 40, .inl f_2283))] H := hP
        have hD : va_D A [(h1, .inl (cI, 360, .inl g0)), (h3, .inl (cI, 16, .inl g2)), (h0, .inr (1, [.ref h1, .ref h2, .ref h3, .int a0, .int x_2282, .int a2])), (h2, .inl (cI, 40, .inl f_2283))] := hD
        refine lv_goto (tgt := 114) hx hb dX1_value_68 (by decide) ?_
        obtain ⟨x_2284, ex_2284⟩ : ∃ y : Int32, y = x_2200 + Int32.ofInt (1) := ⟨_, rfl⟩
        have hx_2284 : rg (1) (360) x_2284 := by rw [ex_2284]; exact rg_mono (rg_add h_2272 (rg_k (x := Int32.ofInt (1)) (c := 1) (by decide)) (by decide) (by decide)) (by decide) (by decide)
        have qx_2284 : x_2284.toInt = x_2200.toInt + (1) := by rw [ex_2284]; exact rg_addE h_2272 (rg_k (x := Int32.ofInt (1)) (c := 1) (by decide)) (by decide) (by decide) (by decide)
        refine lv_iinc (v := x_2284) (lv' := [(1, .int x_2284), (2, .int x_2275), (0, .ref h0)]) hx hb dX1_value_114 hl (k := 1) rfl (ex_2284.symm) (by decide) rfl (fun ls hl => ?_)
        clear ex_2284
        refine lv_goto (tgt := 7) hx hb dX1_value_117 (by decide) ?_
        exact ih_2268 (f_2283, x_2284, x_2282) H locs ls ⟨hP.sub (ws' := [(h0, .inr (1, [.ref h1, .ref h2, .ref h3, .int a0, .int x_2282, .int a2])), (h1, .inl (cI, 360, .inl g0)), (h2, .inl (cI, 40, .inl f_2283)), (h3, .inl (cI, 16, .inl g2))]) [2, 0, 3, 1] rfl, hD.sub (ws' := [(h0, .inr (1, [.ref h1, .ref h2, .ref h3, .int a0, .int x_2282, .int a2])), (h1, .inl (cI, 360, .inl g0)), (h2, .inl (cI, 40, .inl f_2283)), (h3, .inl (cI, 16, .inl g2))]) [2, 0, 3, 1] (by decide) rfl, hS, lv_sub hl [0, 2] rfl, (rg_mono hx_2284 (by decide) (by decide)), (rg_mono hx_2282 (by decide) (by decide))⟩ (by show ((360) - x_2284.toInt).toNat < ((360) - x_2200.toInt).toNat; have ha := h_2272; simp only [rg] at ha; omega)
      · skip
        refine lv_iload_n hx hb dX1_value_46 rfl (lv_at hl 0 rfl) ?_
        refine lv_bipush (v := 12) hx hb dX1_value_47 (by decide) ?_
        refine lv_icmp_lt (tgt := 71) hx hb dX1_value_49 (by decide) (fun c_2285 => ?_) (fun c_2285 => ?_)
        · skip
          have h_2286 : rg (1) (11) x_2275 := by have ha := h_2277; have hb_ := (rg_k (x := 12) (c := 12) (by decide)); simp only [rg, fa_lt, fa_le, fa_eq, (by decide : (12 : Int32).toInt = 12)] at ha hb_ c_2285; simp only [rg]; omega
          refine lv_iload_n hx hb dX1_value_71 rfl (lv_at hl 0 rfl) ?_
          refine lv_bipush (v := 11) hx hb dX1_value_72 (by decide) ?_
          refine lv_icmp_ne (tgt := 96) hx hb dX1_value_74 (by decide) (fun c_2287 => ?_) (fun c_2287 => ?_)
          · skip
            have h_2288 : rg (1) (10) x_2275 := by have ha := h_2286; have hb_ := (rg_k (x := 11) (c := 11) (by decide)); simp only [rg, fa_lt, fa_le, fa_eq, (by decide : (11 : Int32).toInt = 11)] at ha hb_ c_2287; simp only [rg]; omega
            refine lv_aload_n hx hb dX1_value_96 rfl (lv_at hl 2 rfl) ?_
            have hPc := hP.sub (ws' := [(h0, .inr (1, [.ref h1, .ref h2, .ref h3, .int a0, .int x_2201, .int a2])), (h2, .inl (cI, 40, .inl f_2199))]) [0, 2] rfl
            have hDc := hD.sub (ws' := [(h0, .inr (1, [.ref h1, .ref h2, .ref h3, .int a0, .int x_2201, .int a2])), (h2, .inl (cI, 40, .inl f_2199))]) [0, 2] (by decide) rfl
            have hFc := va_free (wc := [(h0, .inr (1, [.ref h1, .ref h2, .ref h3, .int a0, .int x_2201, .int a2])), (h2, .inl (cI, 40, .inl f_2199))]) hD hS hA [0, 2] rfl
            refine va_calli (va_runV (As := []) (rest := []) ⟨hx, hb, hml, hown, hts⟩ (c_s_X1_pop l dC dI cB cI cJ cZ cP h0 h1 h2 f_2199 h3 a0 x_2201 (rg_mono hx_2201 (by decide) (by decide)) a2 H.size) (cwV 0 hts (gd_V (List.mem_of_getElem? (i := 3) rfl) (List.mem_of_getElem? (i := 4) rfl) (List.mem_of_getElem? (i := 5) rfl) (List.mem_of_getElem? (i := 6) rfl) (gd_mono k_s_X1_pop (fun _ h => List.mem_cons_of_mem _ (List.mem_append_right _ (List.mem_append_right _ (List.mem_append_left _ h)))))) rfl rfl rfl (by decide +kernel) ⟨Nat.le_of_ble_eq_true rfl, Nat.le_of_ble_eq_true rfl⟩) ⟨fun a U g mk q => by obtain ⟨q0, q1, qP, qK, qD⟩ := q; exact ⟨q0, q1, qP, va_K.moved (u := U) (U := U.calling g mk a) (Vm.Alike.refl U.vm) qK, qD⟩, va_recv hK hPc (ci := 1) (q0 := 0) rfl rfl, fun U hU hW => ⟨rfl, by rw [hU], by rw [hU]; exact hPc, va_K.moved hW.alike hK, hDc.weaken (fun _ _ _ _ => trivial)⟩⟩ rfl rfl hl.1 rfl (lv_room (Nat.le_of_ble_eq_true rfl)) dX1_value_97 ⟨Nat.le_of_ble_eq_true rfl, Nat.le_of_ble_eq_true rfl⟩) hS (fun q _ h => hFc q h) hFc (fun r_2289 u t H1 locs ht hvm hw hB hz1 hk1 hS => ?_)
            obtain ⟨x_2290, hx_2290, hP1, hD1⟩ := hB
            rw [ht] at hP1
            obtain ⟨hP, hD⟩ := va_join (wr := [(h1, .inl (cI, 360, .inl g0)), (h3, .inl (cI, 16, .inl g2))]) (w1 := [(h0, .inr (1, [.ref h1, .ref h2, .ref h3, .int a0, .int x_2290, .int a2])), (h2, .inl (cI, 40, .inl f_2199))]) hP hD [0, 2] [1, 3] rfl rfl (by decide) (by decide) hk1 hFc hP1 hD1
            generalize H1 = H at hP hS ⊢
            have hP : va_P (dC, dI) vwCl [(h1, .inl (cI, 360, .inl g0)), (h3, .inl (cI, 16, .inl g2)), (h0, .inr (1, [.ref h1, .ref h2, .ref h3, .int a0, .int x_2290, .int a2])), (h2, .inl (cI, 40, .inl f_2199))] H := hP
            have hD : va_D A [(h1, .inl (cI, 360, .inl g0)), (h3, .inl (cI, 16, .inl g2)), (h0, .inr (1, [.ref h1, .ref h2, .ref h3, .int a0, .int x_2290, .int a2])), (h2, .inl (cI, 40, .inl f_2199))] := hD
            refine lv_istore_n (lv' := [(3, .int r_2289), (2, .int x_2275), (1, .int x_2200), (0, .ref h0)]) hx hb dX1_value_100 rfl hl (by decide) rfl (fun ls hl => ?_)
            refine lv_aload_n hx hb dX1_value_101 rfl (lv_at hl 3 rfl) ?_
            refine lv_iload_n hx hb dX1_value_102 rfl (lv_at hl 1 rfl) ?_
            refine lv_aload_n hx hb dX1_value_103 rfl (lv_at hl 3 rfl) ?_
            have hPc := hP.sub (ws' := [(h0, .inr (1, [.ref h1, .ref h2, .ref h3, .int a0, .int x_2290, .int a2])), (h2, .inl (cI, 40, .inl f_2199))]) [2, 3] rfl
            have hDc := hD.sub (ws' := [(h0, .inr (1, [.ref h1, .ref h2, .ref h3, .int a0, .int x_2290, .int a2])), (h2, .inl (cI, 40, .inl f_2199))]) [2, 3] (by decide) rfl
            have hFc := va_free (wc := [(h0, .inr (1, [.ref h1, .ref h2, .ref h3, .int a0, .int x_2290, .int a2])), (h2, .inl (cI, 40, .inl f_2199))]) hD hS hA [2, 3] rfl
            refine va_calli (va_runV (As := []) (rest := [.int x_2275, .ref h0]) ⟨hx, hb, hml, hown, hts⟩ (c_s_X1_pop l dC dI cB cI cJ cZ cP h0 h1 h2 f_2199 h3 a0 x_2290 (rg_mono hx_2290 (by decide) (by decide)) a2 H.size) (cwV 0 hts (gd_V (List.mem_of_getElem? (i := 3) rfl) (List.mem_of_getElem? (i := 4) rfl) (List.mem_of_getElem? (i := 5) rfl) (List.mem_of_getElem? (i := 6) rfl) (gd_mono k_s_X1_pop (fun _ h => List.mem_cons_of_mem _ (List.mem_append_right _ (List.mem_append_right _ (List.mem_append_left _ h)))))) rfl rfl rfl (by decide +kernel) ⟨Nat.le_of_ble_eq_true rfl, Nat.le_of_ble_eq_true rfl⟩) ⟨fun a U g mk q => by obtain ⟨q0, q1, qP, qK, qD⟩ := q; exact ⟨q0, q1, qP, va_K.moved (u := U) (U := U.calling g mk a) (Vm.Alike.refl U.vm) qK, qD⟩, va_recv hK hPc (ci := 1) (q0 := 0) rfl rfl, fun U hU hW => ⟨rfl, by rw [hU], by rw [hU]; exact hPc, va_K.moved hW.alike hK, hDc.weaken (fun _ _ _ _ => trivial)⟩⟩ rfl rfl hl.1 rfl (lv_room (Nat.le_of_ble_eq_true rfl)) dX1_value_104 ⟨Nat.le_of_ble_eq_true rfl, Nat.le_of_ble_eq_true rfl⟩) hS (fun q _ h => hFc q h) hFc (fun r_2291 u t H1 locs ht hvm hw hB hz1 hk1 hS => ?_)
            obtain ⟨x_2292, hx_2292, hP1, hD1⟩ := hB
            rw [ht] at hP1
            obtain ⟨hP, hD⟩ := va_join (wr := [(h1, .inl (cI, 360, .inl g0)), (h3, .inl (cI, 16, .inl g2))]) (w1 := [(h0, .inr (1, [.ref h1, .ref h2, .ref h3, .int a0, .int x_2292, .int a2])), (h2, .inl (cI, 40, .inl f_2199))]) hP hD [2, 3] [0, 1] rfl rfl (by decide) (by decide) hk1 hFc hP1 hD1
            generalize H1 = H at hP hS ⊢
            have hP : va_P (dC, dI) vwCl [(h1, .inl (cI, 360, .inl g0)), (h3, .inl (cI, 16, .inl g2)), (h0, .inr (1, [.ref h1, .ref h2, .ref h3, .int a0, .int x_2292, .int a2])), (h2, .inl (cI, 40, .inl f_2199))] H := hP
            have hD : va_D A [(h1, .inl (cI, 360, .inl g0)), (h3, .inl (cI, 16, .inl g2)), (h0, .inr (1, [.ref h1, .ref h2, .ref h3, .int a0, .int x_2292, .int a2])), (h2, .inl (cI, 40, .inl f_2199))] := hD
            refine lv_iload_n hx hb dX1_value_107 rfl (lv_at hl 0 rfl) ?_
            have hPc := hP.sub (ws' := []) [] rfl
            have hDc := hD.sub (ws' := []) [] (by decide) rfl
            have hFc := va_free (wc := []) hD hS hA [] rfl
            refine va_calli (va_runS (As := [.int x_2275, .int r_2291, .int r_2289]) (rest := [.ref h0]) ⟨hx, hb, hml, hown, hts⟩ (c_s_X1_joined l dC dI cB cI cJ cZ cP x_2275 r_2291 r_2289 H.size) (va_cwS 3 hts (gd_S (List.mem_of_getElem? (i := 12) rfl) (List.mem_of_getElem? (i := 13) rfl) (List.mem_of_getElem? (i := 6) rfl) (gd_mono k_s_X1_joined (fun _ h => List.mem_cons_of_mem _ (List.mem_append_right _ (List.mem_append_right _ (List.mem_append_right _ (List.mem_append_right _ (List.mem_append_left _ h)))))))) rfl rfl rfl (by decide +kernel) ⟨Nat.le_of_ble_eq_true rfl, Nat.le_of_ble_eq_true rfl⟩) ⟨fun a U g mk q => by obtain ⟨q0, q1, qP, qK, qD⟩ := q; exact ⟨q0, q1, qP, va_K.moved (u := U) (U := U.calling g mk a) (Vm.Alike.refl U.vm) qK, qD⟩, fun U hU hW => ⟨rfl, by rw [hU], by rw [hU]; exact hPc, va_K.moved hW.alike hK, hDc.weaken (fun _ _ _ _ => trivial)⟩⟩ rfl rfl hl.1 rfl (lv_room (Nat.le_of_ble_eq_true rfl)) dX1_value_108 ⟨Nat.le_of_ble_eq_true rfl, Nat.le_of_ble_eq_true rfl⟩) hS (fun q _ h => hFc q h) hFc (fun r_2293 u t H1 locs ht hvm hw hB hz1 hk1 hS => ?_)
            obtain ⟨hP1, hD1⟩ := hB
            rw [ht] at hP1
            obtain ⟨hP, hD⟩ := va_join (wr := [(h1, .inl (cI, 360, .inl g0)), (h3, .inl (cI, 16, .inl g2)), (h0, .inr (1, [.ref h1, .ref h2, .ref h3, .int a0, .int x_2292, .int a2])), (h2, .inl (cI, 40, .inl f_2199))]) (w1 := []) hP hD [] [0, 1, 2, 3] rfl rfl (by decide) (by decide) hk1 hFc hP1 hD1
            generalize H1 = H at hP hS ⊢
            have hP : va_P (dC, dI) vwCl [(h1, .inl (cI, 360, .inl g0)), (h3, .inl (cI, 16, .inl g2)), (h0, .inr (1, [.ref h1, .ref h2, .ref h3, .int a0, .int x_2292, .int a2])), (h2, .inl (cI, 40, .inl f_2199))] H := hP
            have hD : va_D A [(h1, .inl (cI, 360, .inl g0)), (h3, .inl (cI, 16, .inl g2)), (h0, .inr (1, [.ref h1, .ref h2, .ref h3, .int a0, .int x_2292, .int a2])), (h2, .inl (cI, 40, .inl f_2199))] := hD
            have hPc := hP.sub (ws' := [(h0, .inr (1, [.ref h1, .ref h2, .ref h3, .int a0, .int x_2292, .int a2])), (h2, .inl (cI, 40, .inl f_2199))]) [2, 3] rfl
            have hDc := hD.sub (ws' := [(h0, .inr (1, [.ref h1, .ref h2, .ref h3, .int a0, .int x_2292, .int a2])), (h2, .inl (cI, 40, .inl f_2199))]) [2, 3] (by decide) rfl
            have hFc := va_free (wc := [(h0, .inr (1, [.ref h1, .ref h2, .ref h3, .int a0, .int x_2292, .int a2])), (h2, .inl (cI, 40, .inl f_2199))]) hD hS hA [2, 3] rfl
            refine va_callv (va_runV (As := [.int r_2293]) (rest := []) ⟨hx, hb, hml, hown, hts⟩ (c_s_X1_push l dC dI cB cI cJ cZ cP h0 h1 h2 f_2199 h3 a0 x_2292 (rg_mono hx_2292 (by decide) (by decide)) a2 r_2293 H.size) (cwV 1 hts (gd_V (List.mem_of_getElem? (i := 9) rfl) (List.mem_of_getElem? (i := 10) rfl) (List.mem_of_getElem? (i := 11) rfl) (List.mem_of_getElem? (i := 6) rfl) (gd_mono k_s_X1_push (fun _ h => List.mem_cons_of_mem _ (List.mem_append_right _ (List.mem_append_right _ (List.mem_append_right _ (List.mem_append_left _ h))))))) rfl rfl rfl (by decide +kernel) ⟨Nat.le_of_ble_eq_true rfl, Nat.le_of_ble_eq_true rfl⟩) ⟨fun a U g mk q => by obtain ⟨q0, q1, qP, qK, qD⟩ := q; exact ⟨q0, q1, qP, va_K.moved (u := U) (U := U.calling g mk a) (Vm.Alike.refl U.vm) qK, qD⟩, va_recv hK hPc (ci := 1) (q0 := 0) rfl rfl, fun U hU hW => ⟨rfl, by rw [hU], by rw [hU]; exact hPc, va_K.moved hW.alike hK, hDc.weaken (fun _ _ _ _ => trivial)⟩⟩ rfl rfl hl.1 rfl (lv_room (Nat.le_of_ble_eq_true rfl)) dX1_value_111 ⟨Nat.le_of_ble_eq_true rfl, Nat.le_of_ble_eq_true rfl⟩) hS (fun q _ h => hFc q h) hFc (fun u t H1 locs ht hvm hw hB hz1 hk1 hS => ?_)
            obtain ⟨x_2295, f_2296, hx_2295, hP1, hD1⟩ := hB
            rw [ht] at hP1
            obtain ⟨hP, hD⟩ := va_join (wr := [(h1, .inl (cI, 360, .inl g0)), (h3, .inl (cI, 16, .inl g2))]) (w1 := [(h0, .inr (1, [.ref h1, .ref h2, .ref h3, .int a0, .int x_2295, .int a2])), (h2, .inl (cI, 40, .inl f_2296))]) hP hD [2, 3] [0, 1] rfl rfl (by decide) (by decide) hk1 hFc hP1 hD1
            generalize H1 = H at hP hS ⊢
            have hP : va_P (dC, dI) vwCl [(h1, .inl (cI, 360, .inl g0)), (h3, .inl (cI, 16, .inl g2)), (h0, .inr (1, [.ref h1, .ref h2, .ref h3, .int a0, .int x_2295, .int a2])), (h2, .inl (cI, 40, .inl f_2296))] H := hP
            have hD : va_D A [(h1, .inl (cI, 360, .inl g0)), (h3, .inl (cI, 16, .inl g2)), (h0, .inr (1, [.ref h1, .ref h2, .ref h3, .int a0, .int x_2295, .int a2])), (h2, .inl (cI, 40, .inl f_2296))] := hD
            obtain ⟨x_2297, ex_2297⟩ : ∃ y : Int32, y = x_2200 + Int32.ofInt (1) := ⟨_, rfl⟩
            have hx_2297 : rg (1) (360) x_2297 := by rw [ex_2297]; exact rg_mono (rg_add h_2272 (rg_k (x := Int32.ofInt (1)) (c := 1) (by decide)) (by decide) (by decide)) (by decide) (by decide)
            have qx_2297 : x_2297.toInt = x_2200.toInt + (1) := by rw [ex_2297]; exact rg_addE h_2272 (rg_k (x := Int32.ofInt (1)) (c := 1) (by decide)) (by decide) (by decide) (by decide)
            refine lv_iinc (v := x_2297) (lv' := [(1, .int x_2297), (3, .int r_2289), (2, .int x_2275), (0, .ref h0)]) hx hb dX1_value_114 hl (k := 2) rfl (ex_2297.symm) (by decide) rfl (fun ls hl => ?_)
            clear ex_2297
            refine lv_goto (tgt := 7) hx hb dX1_value_117 (by decide) ?_
            exact ih_2268 (f_2296, x_2297, x_2295) H locs ls ⟨hP.sub (ws' := [(h0, .inr (1, [.ref h1, .ref h2, .ref h3, .int a0, .int x_2295, .int a2])), (h1, .inl (cI, 360, .inl g0)), (h2, .inl (cI, 40, .inl f_2296)), (h3, .inl (cI, 16, .inl g2))]) [2, 0, 3, 1] rfl, hD.sub (ws' := [(h0, .inr (1, [.ref h1, .ref h2, .ref h3, .int a0, .int x_2295, .int a2])), (h1, .inl (cI, 360, .inl g0)), (h2, .inl (cI, 40, .inl f_2296)), (h3, .inl (cI, 16, .inl g2))]) [2, 0, 3, 1] (by decide) rfl, hS, lv_sub hl [0, 3] rfl, (rg_mono hx_2297 (by decide) (by decide)), (rg_mono hx_2295 (by decide) (by decide))⟩ (by show ((360) - x_2297.toInt).toNat < ((360) - x_2200.toInt).toNat; have ha := h_2272; simp only [rg] at ha; omega)
          · skip
            have h_2298 : rg (11) (11) x_2275 := by have ha := h_2286; have hb_ := (rg_k (x := 11) (c := 11) (by decide)); simp only [rg, fa_lt, fa_le, fa_eq, (by decide : (11 : Int32).toInt = 11)] at ha hb_ c_2287; simp only [rg]; omega
            refine lv_aload_n hx hb dX1_value_77 rfl (lv_at hl 2 rfl) ?_
            refine lv_aload_n hx hb dX1_value_78 rfl (lv_at hl 2 rfl) ?_
            have hPc := hP.sub (ws' := [(h0, .inr (1, [.ref h1, .ref h2, .ref h3, .int a0, .int x_2201, .int a2])), (h2, .inl (cI, 40, .inl f_2199))]) [0, 2] rfl
            have hDc := hD.sub (ws' := [(h0, .inr (1, [.ref h1, .ref h2, .ref h3, .int a0, .int x_2201, .int a2])), (h2, .inl (cI, 40, .inl f_2199))]) [0, 2] (by decide) rfl
            have hFc := va_free (wc := [(h0, .inr (1, [.ref h1, .ref h2, .ref h3, .int a0, .int x_2201, .int a2])), (h2, .inl (cI, 40, .inl f_2199))]) hD hS hA [0, 2] rfl
            refine va_calli (va_runV (As := []) (rest := [.ref h0]) ⟨hx, hb, hml, hown, hts⟩ (c_s_X1_pop l dC dI cB cI cJ cZ cP h0 h1 h2 f_2199 h3 a0 x_2201 (rg_mono hx_2201 (by decide) (by decide)) a2 H.size) (cwV 0 hts (gd_V (List.mem_of_getElem? (i := 3) rfl) (List.mem_of_getElem? (i := 4) rfl) (List.mem_of_getElem? (i := 5) rfl) (List.mem_of_getElem? (i := 6) rfl) (gd_mono k_s_X1_pop (fun _ h => List.mem_cons_of_mem _ (List.mem_append_right _ (List.mem_append_right _ (List.mem_append_left _ h)))))) rfl rfl rfl (by decide +kernel) ⟨Nat.le_of_ble_eq_true rfl, Nat.le_of_ble_eq_true rfl⟩) ⟨fun a U g mk q => by obtain ⟨q0, q1, qP, qK, qD⟩ := q; exact ⟨q0, q1, qP, va_K.moved (u := U) (U := U.calling g mk a) (Vm.Alike.refl U.vm) qK, qD⟩, va_recv hK hPc (ci := 1) (q0 := 0) rfl rfl, fun U hU hW => ⟨rfl, by rw [hU], by rw [hU]; exact hPc, va_K.moved hW.alike hK, hDc.weaken (fun _ _ _ _ => trivial)⟩⟩ rfl rfl hl.1 rfl (lv_room (Nat.le_of_ble_eq_true rfl)) dX1_value_79 ⟨Nat.le_of_ble_eq_true rfl, Nat.le_of_ble_eq_true rfl⟩) hS (fun q _ h => hFc q h) hFc (fun r_2299 u t H1 locs ht hvm hw hB hz1 hk1 hS => ?_)
            obtain ⟨x_2300, hx_2300, hP1, hD1⟩ := hB
            rw [ht] at hP1
            obtain ⟨hP, hD⟩ := va_join (wr := [(h1, .inl (cI, 360, .inl g0)), (h3, .inl (cI, 16, .inl g2))]) (w1 := [(h0, .inr (1, [.ref h1, .ref h2, .ref h3, .int a0, .int x_2300, .int a2])), (h2, .inl (cI, 40, .inl f_2199))]) hP hD [0, 2] [1, 3] rfl rfl (by decide) (by decide) hk1 hFc hP1 hD1
            generalize H1 = H at hP hS ⊢
            have hP : va_P (dC, dI) vwCl [(h1, .inl (cI, 360, .inl g0)), (h3, .inl (cI, 16, .inl g2)), (h0, .inr (1, [.ref h1, .ref h2, .ref h3, .int a0, .int x_2300, .int a2])), (h2, .inl (cI, 40, .inl f_2199))] H := hP
            have hD : va_D A [(h1, .inl (cI, 360, .inl g0)), (h3, .inl (cI, 16, .inl g2)), (h0, .inr (1, [.ref h1, .ref h2, .ref h3, .int a0, .int x_2300, .int a2])), (h2, .inl (cI, 40, .inl f_2199))] := hD
            refine lv_if_ne (tgt := 89) hx hb dX1_value_82 (by decide) (fun c_2301 => ?_) (fun c_2301 => ?_)
            · skip
              refine lv_iconst (v := 0) hx hb dX1_value_89 (by decide) ?_
              have hPc := hP.sub (ws' := [(h0, .inr (1, [.ref h1, .ref h2, .ref h3, .int a0, .int x_2300, .int a2])), (h2, .inl (cI, 40, .inl f_2199))]) [2, 3] rfl
              have hDc := hD.sub (ws' := [(h0, .inr (1, [.ref h1, .ref h2, .ref h3, .int a0, .int x_2300, .int a2])), (h2, .inl (cI, 40, .inl f_2199))]) [2, 3] (by decide) rfl
              have hFc := va_free (wc := [(h0, .inr (1, [.ref h1, .ref h2, .ref h3, .int a0, .int x_2300, .int a2])), (h2, .inl (cI, 40, .inl f_2199))]) hD hS hA [2, 3] rfl
              refine va_callv (va_runV (As := [.int 0]) (rest := []) ⟨hx, hb, hml, hown, hts⟩ (c_s_X1_push l dC dI cB cI cJ cZ cP h0 h1 h2 f_2199 h3 a0 x_2300 (rg_mono hx_2300 (by decide) (by decide)) a2 0 H.size) (cwV 1 hts (gd_V (List.mem_of_getElem? (i := 9) rfl) (List.mem_of_getElem? (i := 10) rfl) (List.mem_of_getElem? (i := 11) rfl) (List.mem_of_getElem? (i := 6) rfl) (gd_mono k_s_X1_push (fun _ h => List.mem_cons_of_mem _ (List.mem_append_right _ (List.mem_append_right _ (List.mem_append_right _ (List.mem_append_left _ h))))))) rfl rfl rfl (by decide +kernel) ⟨Nat.le_of_ble_eq_true rfl, Nat.le_of_ble_eq_true rfl⟩) ⟨fun a U g mk q => by obtain ⟨q0, q1, qP, qK, qD⟩ := q; exact ⟨q0, q1, qP, va_K.moved (u := U) (U := U.calling g mk a) (Vm.Alike.refl U.vm) qK, qD⟩, va_recv hK hPc (ci := 1) (q0 := 0) rfl rfl, fun U hU hW => ⟨rfl, by rw [hU], by rw [hU]; exact hPc, va_K.moved hW.alike hK, hDc.weaken (fun _ _ _ _ => trivial)⟩⟩ rfl rfl hl.1 rfl (lv_room (Nat.le_of_ble_eq_true rfl)) dX1_value_90 ⟨Nat.le_of_ble_eq_true rfl, Nat.le_of_ble_eq_true rfl⟩) hS (fun q _ h => hFc q h) hFc (fun u t H1 locs ht hvm hw hB hz1 hk1 hS => ?_)
              obtain ⟨x_2303, f_2304, hx_2303, hP1, hD1⟩ := hB
              rw [ht] at hP1
              obtain ⟨hP, hD⟩ := va_join (wr := [(h1, .inl (cI, 360, .inl g0)), (h3, .inl (cI, 16, .inl g2))]) (w1 := [(h0, .inr (1, [.ref h1, .ref h2, .ref h3, .int a0, .int x_2303, .int a2])), (h2, .inl (cI, 40, .inl f_2304))]) hP hD [2, 3] [0, 1] rfl rfl (by decide) (by decide) hk1 hFc hP1 hD1
              generalize H1 = H at hP hS ⊢
              have hP : va_P (dC, dI) vwCl [(h1, .inl (cI, 360, .inl g0)), (h3, .inl (cI, 16, .inl g2)), (h0, .inr (1, [.ref h1, .ref h2, .ref h3, .int a0, .int x_2303, .int a2])), (h2, .inl (cI, 40, .inl f_2304))] H := hP
              have hD : va_D A [(h1, .inl (cI, 360, .inl g0)), (h3, .inl (cI, 16, .inl g2)), (h0, .inr (1, [.ref h1, .ref h2, .ref h3, .int a0, .int x_2303, .int a2])), (h2, .inl (cI, 40, .inl f_2304))] := hD
              refine lv_goto (tgt := 114) hx hb dX1_value_93 (by decide) ?_
              obtain ⟨x_2305, ex_2305⟩ : ∃ y : Int32, y = x_2200 + Int32.ofInt (1) := ⟨_, rfl⟩
              have hx_2305 : rg (1) (360) x_2305 := by rw [ex_2305]; exact rg_mono (rg_add h_2272 (rg_k (x := Int32.ofInt (1)) (c := 1) (by decide)) (by decide) (by decide)) (by decide) (by decide)
              have qx_2305 : x_2305.toInt = x_2200.toInt + (1) := by rw [ex_2305]; exact rg_addE h_2272 (rg_k (x := Int32.ofInt (1)) (c := 1) (by decide)) (by decide) (by decide) (by decide)
              refine lv_iinc (v := x_2305) (lv' := [(1, .int x_2305), (2, .int x_2275), (0, .ref h0)]) hx hb dX1_value_114 hl (k := 1) rfl (ex_2305.symm) (by decide) rfl (fun ls hl => ?_)
              clear ex_2305
              refine lv_goto (tgt := 7) hx hb dX1_value_117 (by decide) ?_
              exact ih_2268 (f_2304, x_2305, x_2303) H locs ls ⟨hP.sub (ws' := [(h0, .inr (1, [.ref h1, .ref h2, .ref h3, .int a0, .int x_2303, .int a2])), (h1, .inl (cI, 360, .inl g0)), (h2, .inl (cI, 40, .inl f_2304)), (h3, .inl (cI, 16, .inl g2))]) [2, 0, 3, 1] rfl, hD.sub (ws' := [(h0, .inr (1, [.ref h1, .ref h2, .ref h3, .int a0, .int x_2303, .int a2])), (h1, .inl (cI, 360, .inl g0)), (h2, .inl (cI, 40, .inl f_2304)), (h3, .inl (cI, 16, .inl g2))]) [2, 0, 3, 1] (by decide) rfl, hS, lv_sub hl [0, 2] rfl, (rg_mono hx_2305 (by decide) (by decide)), (rg_mono hx_2303 (by decide) (by decide))⟩ (by show ((360) - x_2305.toInt).toNat < ((360) - x_2200.toInt).toNat; have ha := h_2272; simp only [rg] at ha; omega)
            · skip
              have h_2306 : rg (0) (0) r_2299 := by have ha := (rg_any r_2299); have hb_ := (rg_k (x := 0) (c := 0) (by decide)); simp only [rg, fa_lt, fa_le, fa_eq, (by decide : (0 : Int32).toInt = 0)] at ha hb_ c_2301; simp only [rg]; omega
              refine lv_iconst (v := 1) hx hb dX1_value_85 (by decide) ?_
              refine lv_goto (tgt := 90) hx hb dX1_value_86 (by decide) ?_
              have hPc := hP.sub (ws' := [(h0, .inr (1, [.ref h1, .ref h2, .ref h3, .int a0, .int x_2300, .int a2])), (h2, .inl (cI, 40, .inl f_2199))]) [2, 3] rfl
              have hDc := hD.sub (ws' := [(h0, .inr (1, [.ref h1, .ref h2, .ref h3, .int a0, .int x_2300, .int a2])), (h2, .inl (cI, 40, .inl f_2199))]) [2, 3] (by decide) rfl
              have hFc := va_free (wc := [(h0, .inr (1, [.ref h1, .ref h2, .ref h3, .int a0, .int x_2300, .int a2])), (h2, .inl (cI, 40, .inl f_2199))]) hD hS hA [2, 3] rfl
              refine va_callv (va_runV (As := [.int 1]) (rest := []) ⟨hx, hb, hml, hown, hts⟩ (c_s_X1_push l dC dI cB cI cJ cZ cP h0 h1 h2 f_2199 h3 a0 x_2300 (rg_mono hx_2300 (by decide) (by decide)) a2 1 H.size) (cwV 1 hts (gd_V (List.mem_of_getElem? (i := 9) rfl) (List.mem_of_getElem? (i := 10) rfl) (List.mem_of_getElem? (i := 11) rfl) (List.mem_of_getElem? (i := 6) rfl) (gd_mono k_s_X1_push (fun _ h => List.mem_cons_of_mem _ (List.mem_append_right _ (List.mem_append_right _ (List.mem_append_right _ (List.mem_append_left _ h))))))) rfl rfl rfl (by decide +kernel) ⟨Nat.le_of_ble_eq_true rfl, Nat.le_of_ble_eq_true rfl⟩) ⟨fun a U g mk q => by obtain ⟨q0, q1, qP, qK, qD⟩ := q; exact ⟨q0, q1, qP, va_K.moved (u := U) (U := U.calling g mk a) (Vm.Alike.refl U.vm) qK, qD⟩, va_recv hK hPc (ci := 1) (q0 := 0) rfl rfl, fun U hU hW => ⟨rfl, by rw [hU], by rw [hU]; exact hPc, va_K.moved hW.alike hK, hDc.weaken (fun _ _ _ _ => trivial)⟩⟩ rfl rfl hl.1 rfl (lv_room (Nat.le_of_ble_eq_true rfl)) dX1_value_90 ⟨Nat.le_of_ble_eq_true rfl, Nat.le_of_ble_eq_true rfl⟩) hS (fun q _ h => hFc q h) hFc (fun u t H1 locs ht hvm hw hB hz1 hk1 hS => ?_)
              obtain ⟨x_2308, f_2309, hx_2308, hP1, hD1⟩ := hB
              rw [ht] at hP1
              obtain ⟨hP, hD⟩ := va_join (wr := [(h1, .inl (cI, 360, .inl g0)), (h3, .inl (cI, 16, .inl g2))]) (w1 := [(h0, .inr (1, [.ref h1, .ref h2, .ref h3, .int a0, .int x_2308, .int a2])), (h2, .inl (cI, 40, .inl f_2309))]) hP hD [2, 3] [0, 1] rfl rfl (by decide) (by decide) hk1 hFc hP1 hD1
              generalize H1 = H at hP hS ⊢
              have hP : va_P (dC, dI) vwCl [(h1, .inl (cI, 360, .inl g0)), (h3, .inl (cI, 16, .inl g2)), (h0, .inr (1, [.ref h1, .ref h2, .ref h3, .int a0, .int x_2308, .int a2])), (h2, .inl (cI, 40, .inl f_2309))] H := hP
              have hD : va_D A [(h1, .inl (cI, 360, .inl g0)), (h3, .inl (cI, 16, .inl g2)), (h0, .inr (1, [.ref h1, .ref h2, .ref h3, .int a0, .int x_2308, .int a2])), (h2, .inl (cI, 40, .inl f_2309))] := hD
              refine lv_goto (tgt := 114) hx hb dX1_value_93 (by decide) ?_
              obtain ⟨x_2310, ex_2310⟩ : ∃ y : Int32, y = x_2200 + Int32.ofInt (1) := ⟨_, rfl⟩
              have hx_2310 : rg (1) (360) x_2310 := by rw [ex_2310]; exact rg_mono (rg_add h_2272 (rg_k (x := Int32.ofInt (1)) (c := 1) (by decide)) (by decide) (by decide)) (by decide) (by decide)
              have qx_2310 : x_2310.toInt = x_2200.toInt + (1) := by rw [ex_2310]; exact rg_addE h_2272 (rg_k (x := Int32.ofInt (1)) (c := 1) (by decide)) (by decide) (by decide) (by decide)
              refine lv_iinc (v := x_2310) (lv' := [(1, .int x_2310), (2, .int x_2275), (0, .ref h0)]) hx hb dX1_value_114 hl (k := 1) rfl (ex_2310.symm) (by decide) rfl (fun ls hl => ?_)
              clear ex_2310
              refine lv_goto (tgt := 7) hx hb dX1_value_117 (by decide) ?_
              exact ih_2268 (f_2309, x_2310, x_2308) H locs ls ⟨hP.sub (ws' := [(h0, .inr (1, [.ref h1, .ref h2, .ref h3, .int a0, .int x_2308, .int a2])), (h1, .inl (cI, 360, .inl g0)), (h2, .inl (cI, 40, .inl f_2309)), (h3, .inl (cI, 16, .inl g2))]) [2, 0, 3, 1] rfl, hD.sub (ws' := [(h0, .inr (1, [.ref h1, .ref h2, .ref h3, .int a0, .int x_2308, .int a2])), (h1, .inl (cI, 360, .inl g0)), (h2, .inl (cI, 40, .inl f_2309)), (h3, .inl (cI, 16, .inl g2))]) [2, 0, 3, 1] (by decide) rfl, hS, lv_sub hl [0, 2] rfl, (rg_mono hx_2310 (by decide) (by decide)), (rg_mono hx_2308 (by decide) (by decide))⟩ (by show ((360) - x_2310.toInt).toNat < ((360) - x_2200.toInt).toNat; have ha := h_2272; simp only [rg] at ha; omega)
        · skip
          have h_2311 : rg (12) (2147483647) x_2275 := by have ha := h_2277; have hb_ := (rg_k (x := 12) (c := 12) (by decide)); simp only [rg, fa_lt, fa_le, fa_eq, (by decide : (12 : Int32).toInt = 12)] at ha hb_ c_2285; simp only [rg]; omega
          refine lv_iload_n hx hb dX1_value_52 rfl (lv_at hl 0 rfl) ?_
          refine lv_bipush (v := 15) hx hb dX1_value_53 (by decide) ?_
          refine lv_icmp_gt (tgt := 71) hx hb dX1_value_55 (by decide) (fun c_2312 => ?_) (fun c_2312 => ?_)
          · skip
            have h_2313 : rg (16) (2147483647) x_2275 := by have ha := h_2311; have hb_ := (rg_k (x := 15) (c := 15) (by decide)); simp only [rg, fa_lt, fa_le, fa_eq, (by decide : (15 : Int32).toInt = 15)] at ha hb_ c_2312; simp only [rg]; omega
            refine lv_iload_n hx hb dX1_value_71 rfl (lv_at hl 0 rfl) ?_
            refine lv_bipush (v := 11) hx hb dX1_value_72 (by decide) ?_
            refine lv_icmp_ne (tgt := 96) hx hb dX1_value_74 (by decide) (fun c_2314 => ?_) (fun c_2314 => ?_)
            · skip
              refine lv_aload_n hx hb dX1_value_96 rfl (lv_at hl 2 rfl) ?_
              have hPc := hP.sub (ws' := [(h0, .inr (1, [.ref h1, .ref h2, .ref h3, .int a0, .int x_2201, .int a2])), (h2, .inl (cI, 40, .inl f_2199))]) [0, 2] rfl
              have hDc := hD.sub (ws' := [(h0, .inr (1, [.ref h1, .ref h2, .ref h3, .int a0, .int x_2201, .int a2])), (h2, .inl (cI, 40, .inl f_2199))]) [0, 2] (by decide) rfl
              have hFc := va_free (wc := [(h0, .inr (1, [.ref h1, .ref h2, .ref h3, .int a0, .int x_2201, .int a2])), (h2, .inl (cI, 40, .inl f_2199))]) hD hS hA [0, 2] rfl
              refine va_calli (va_runV (As := []) (rest := []) ⟨hx, hb, hml, hown, hts⟩ (c_s_X1_pop l dC dI cB cI cJ cZ cP h0 h1 h2 f_2199 h3 a0 x_2201 (rg_mono hx_2201 (by decide) (by decide)) a2 H.size) (cwV 0 hts (gd_V (List.mem_of_getElem? (i := 3) rfl) (List.mem_of_getElem? (i := 4) rfl) (List.mem_of_getElem? (i := 5) rfl) (List.mem_of_getElem? (i := 6) rfl) (gd_mono k_s_X1_pop (fun _ h => List.mem_cons_of_mem _ (List.mem_append_right _ (List.mem_append_right _ (List.mem_append_left _ h)))))) rfl rfl rfl (by decide +kernel) ⟨Nat.le_of_ble_eq_true rfl, Nat.le_of_ble_eq_true rfl⟩) ⟨fun a U g mk q => by obtain ⟨q0, q1, qP, qK, qD⟩ := q; exact ⟨q0, q1, qP, va_K.moved (u := U) (U := U.calling g mk a) (Vm.Alike.refl U.vm) qK, qD⟩, va_recv hK hPc (ci := 1) (q0 := 0) rfl rfl, fun U hU hW => ⟨rfl, by rw [hU], by rw [hU]; exact hPc, va_K.moved hW.alike hK, hDc.weaken (fun _ _ _ _ => trivial)⟩⟩ rfl rfl hl.1 rfl (lv_room (Nat.le_of_ble_eq_true rfl)) dX1_value_97 ⟨Nat.le_of_ble_eq_true rfl, Nat.le_of_ble_eq_true rfl⟩) hS (fun q _ h => hFc q h) hFc (fun r_2315 u t H1 locs ht hvm hw hB hz1 hk1 hS => ?_)
              obtain ⟨x_2316, hx_2316, hP1, hD1⟩ := hB
              rw [ht] at hP1
              obtain ⟨hP, hD⟩ := va_join (wr := [(h1, .inl (cI, 360, .inl g0)), (h3, .inl (cI, 16, .inl g2))]) (w1 := [(h0, .inr (1, [.ref h1, .ref h2, .ref h3, .int a0, .int x_2316, .int a2])), (h2, .inl (cI, 40, .inl f_2199))]) hP hD [0, 2] [1, 3] rfl rfl (by decide) (by decide) hk1 hFc hP1 hD1
              generalize H1 = H at hP hS ⊢
              have hP : va_P (dC, dI) vwCl [(h1, .inl (cI, 360, .inl g0)), (h3, .inl (cI, 16, .inl g2)), (h0, .inr (1, [.ref h1, .ref h2, .ref h3, .int a0, .int x_2316, .int a2])), (h2, .inl (cI, 40, .inl f_2199))] H := hP
              have hD : va_D A [(h1, .inl (cI, 360, .inl g0)), (h3, .inl (cI, 16, .inl g2)), (h0, .inr (1, [.ref h1, .ref h2, .ref h3, .int a0, .int x_2316, .int a2])), (h2, .inl (cI, 40, .inl f_2199))] := hD
              refine lv_istore_n (lv' := [(3, .int r_2315), (2, .int x_2275), (1, .int x_2200), (0, .ref h0)]) hx hb dX1_value_100 rfl hl (by decide) rfl (fun ls hl => ?_)
              refine lv_aload_n hx hb dX1_value_101 rfl (lv_at hl 3 rfl) ?_
              refine lv_iload_n hx hb dX1_value_102 rfl (lv_at hl 1 rfl) ?_
              refine lv_aload_n hx hb dX1_value_103 rfl (lv_at hl 3 rfl) ?_
              have hPc := hP.sub (ws' := [(h0, .inr (1, [.ref h1, .ref h2, .ref h3, .int a0, .int x_2316, .int a2])), (h2, .inl (cI, 40, .inl f_2199))]) [2, 3] rfl
              have hDc := hD.sub (ws' := [(h0, .inr (1, [.ref h1, .ref h2, .ref h3, .int a0, .int x_2316, .int a2])), (h2, .inl (cI, 40, .inl f_2199))]) [2, 3] (by decide) rfl
              have hFc := va_free (wc := [(h0, .inr (1, [.ref h1, .ref h2, .ref h3, .int a0, .int x_2316, .int a2])), (h2, .inl (cI, 40, .inl f_2199))]) hD hS hA [2, 3] rfl
              refine va_calli (va_runV (As := []) (rest := [.int x_2275, .ref h0]) ⟨hx, hb, hml, hown, hts⟩ (c_s_X1_pop l dC dI cB cI cJ cZ cP h0 h1 h2 f_2199 h3 a0 x_2316 (rg_mono hx_2316 (by decide) (by decide)) a2 H.size) (cwV 0 hts (gd_V (List.mem_of_getElem? (i := 3) rfl) (List.mem_of_getElem? (i := 4) rfl) (List.mem_of_getElem? (i := 5) rfl) (List.mem_of_getElem? (i := 6) rfl) (gd_mono k_s_X1_pop (fun _ h => List.mem_cons_of_mem _ (List.mem_append_right _ (List.mem_append_right _ (List.mem_append_left _ h)))))) rfl rfl rfl (by decide +kernel) ⟨Nat.le_of_ble_eq_true rfl, Nat.le_of_ble_eq_true rfl⟩) ⟨fun a U g mk q => by obtain ⟨q0, q1, qP, qK, qD⟩ := q; exact ⟨q0, q1, qP, va_K.moved (u := U) (U := U.calling g mk a) (Vm.Alike.refl U.vm) qK, qD⟩, va_recv hK hPc (ci := 1) (q0 := 0) rfl rfl, fun U hU hW => ⟨rfl, by rw [hU], by rw [hU]; exact hPc, va_K.moved hW.alike hK, hDc.weaken (fun _ _ _ _ => trivial)⟩⟩ rfl rfl hl.1 rfl (lv_room (Nat.le_of_ble_eq_true rfl)) dX1_value_104 ⟨Nat.le_of_ble_eq_true rfl, Nat.le_of_ble_eq_true rfl⟩) hS (fun q _ h => hFc q h) hFc (fun r_2317 u t H1 locs ht hvm hw hB hz1 hk1 hS => ?_)
              obtain ⟨x_2318, hx_2318, hP1, hD1⟩ := hB
              rw [ht] at hP1
              obtain ⟨hP, hD⟩ := va_join (wr := [(h1, .inl (cI, 360, .inl g0)), (h3, .inl (cI, 16, .inl g2))]) (w1 := [(h0, .inr (1, [.ref h1, .ref h2, .ref h3, .int a0, .int x_2318, .int a2])), (h2, .inl (cI, 40, .inl f_2199))]) hP hD [2, 3] [0, 1] rfl rfl (by decide) (by decide) hk1 hFc hP1 hD1
              generalize H1 = H at hP hS ⊢
              have hP : va_P (dC, dI) vwCl [(h1, .inl (cI, 360, .inl g0)), (h3, .inl (cI, 16, .inl g2)), (h0, .inr (1, [.ref h1, .ref h2, .ref h3, .int a0, .int x_2318, .int a2])), (h2, .inl (cI, 40, .inl f_2199))] H := hP
              have hD : va_D A [(h1, .inl (cI, 360, .inl g0)), (h3, .inl (cI, 16, .inl g2)), (h0, .inr (1, [.ref h1, .ref h2, .ref h3, .int a0, .int x_2318, .int a2])), (h2, .inl (cI, 40, .inl f_2199))] := hD
              refine lv_iload_n hx hb dX1_value_107 rfl (lv_at hl 0 rfl) ?_
              have hPc := hP.sub (ws' := []) [] rfl
              have hDc := hD.sub (ws' := []) [] (by decide) rfl
              have hFc := va_free (wc := []) hD hS hA [] rfl
              refine va_calli (va_runS (As := [.int x_2275, .int r_2317, .int r_2315]) (rest := [.ref h0]) ⟨hx, hb, hml, hown, hts⟩ (c_s_X1_joined l dC dI cB cI cJ cZ cP x_2275 r_2317 r_2315 H.size) (va_cwS 3 hts (gd_S (List.mem_of_getElem? (i := 12) rfl) (List.mem_of_getElem? (i := 13) rfl) (List.mem_of_getElem? (i := 6) rfl) (gd_mono k_s_X1_joined (fun _ h => List.mem_cons_of_mem _ (List.mem_append_right _ (List.mem_append_right _ (List.mem_append_right _ (List.mem_append_right _ (List.mem_append_left _ h)))))))) rfl rfl rfl (by decide +kernel) ⟨Nat.le_of_ble_eq_true rfl, Nat.le_of_ble_eq_true rfl⟩) ⟨fun a U g mk q => by obtain ⟨q0, q1, qP, qK, qD⟩ := q; exact ⟨q0, q1, qP, va_K.moved (u := U) (U := U.calling g mk a) (Vm.Alike.refl U.vm) qK, qD⟩, fun U hU hW => ⟨rfl, by rw [hU], by rw [hU]; exact hPc, va_K.moved hW.alike hK, hDc.weaken (fun _ _ _ _ => trivial)⟩⟩ rfl rfl hl.1 rfl (lv_room (Nat.le_of_ble_eq_true rfl)) dX1_value_108 ⟨Nat.le_of_ble_eq_true rfl, Nat.le_of_ble_eq_true rfl⟩) hS (fun q _ h => hFc q h) hFc (fun r_2319 u t H1 locs ht hvm hw hB hz1 hk1 hS => ?_)
              obtain ⟨hP1, hD1⟩ := hB
              rw [ht] at hP1
              obtain ⟨hP, hD⟩ := va_join (wr := [(h1, .inl (cI, 360, .inl g0)), (h3, .inl (cI, 16, .inl g2)), (h0, .inr (1, [.ref h1, .ref h2, .ref h3, .int a0, .int x_2318, .int a2])), (h2, .inl (cI, 40, .inl f_2199))]) (w1 := []) hP hD [] [0, 1, 2, 3] rfl rfl (by decide) (by decide) hk1 hFc hP1 hD1
              generalize H1 = H at hP hS ⊢
              have hP : va_P (dC, dI) vwCl [(h1, .inl (cI, 360, .inl g0)), (h3, .inl (cI, 16, .inl g2)), (h0, .inr (1, [.ref h1, .ref h2, .ref h3, .int a0, .int x_2318, .int a2])), (h2, .inl (cI, 40, .inl f_2199))] H := hP
              have hD : va_D A [(h1, .inl (cI, 360, .inl g0)), (h3, .inl (cI, 16, .inl g2)), (h0, .inr (1, [.ref h1, .ref h2, .ref h3, .int a0, .int x_2318, .int a2])), (h2, .inl (cI, 40, .inl f_2199))] := hD
              have hPc := hP.sub (ws' := [(h0, .inr (1, [.ref h1, .ref h2, .ref h3, .int a0, .int x_2318, .int a2])), (h2, .inl (cI, 40, .inl f_2199))]) [2, 3] rfl
              have hDc := hD.sub (ws' := [(h0, .inr (1, [.ref h1, .ref h2, .ref h3, .int a0, .int x_2318, .int a2])), (h2, .inl (cI, 40, .inl f_2199))]) [2, 3] (by decide) rfl
              have hFc := va_free (wc := [(h0, .inr (1, [.ref h1, .ref h2, .ref h3, .int a0, .int x_2318, .int a2])), (h2, .inl (cI, 40, .inl f_2199))]) hD hS hA [2, 3] rfl
              refine va_callv (va_runV (As := [.int r_2319]) (rest := []) ⟨hx, hb, hml, hown, hts⟩ (c_s_X1_push l dC dI cB cI cJ cZ cP h0 h1 h2 f_2199 h3 a0 x_2318 (rg_mono hx_2318 (by decide) (by decide)) a2 r_2319 H.size) (cwV 1 hts (gd_V (List.mem_of_getElem? (i := 9) rfl) (List.mem_of_getElem? (i := 10) rfl) (List.mem_of_getElem? (i := 11) rfl) (List.mem_of_getElem? (i := 6) rfl) (gd_mono k_s_X1_push (fun _ h => List.mem_cons_of_mem _ (List.mem_append_right _ (List.mem_append_right _ (List.mem_append_right _ (List.mem_append_left _ h))))))) rfl rfl rfl (by decide +kernel) ⟨Nat.le_of_ble_eq_true rfl, Nat.le_of_ble_eq_true rfl⟩) ⟨fun a U g mk q => by obtain ⟨q0, q1, qP, qK, qD⟩ := q; exact ⟨q0, q1, qP, va_K.moved (u := U) (U := U.calling g mk a) (Vm.Alike.refl U.vm) qK, qD⟩, va_recv hK hPc (ci := 1) (q0 := 0) rfl rfl, fun U hU hW => ⟨rfl, by rw [hU], by rw [hU]; exact hPc, va_K.moved hW.alike hK, hDc.weaken (fun _ _ _ _ => trivial)⟩⟩ rfl rfl hl.1 rfl (lv_room (Nat.le_of_ble_eq_true rfl)) dX1_value_111 ⟨Nat.le_of_ble_eq_true rfl, Nat.le_of_ble_eq_true rfl⟩) hS (fun q _ h => hFc q h) hFc (fun u t H1 locs ht hvm hw hB hz1 hk1 hS => ?_)
              obtain ⟨x_2321, f_2322, hx_2321, hP1, hD1⟩ := hB
              rw [ht] at hP1
              obtain ⟨hP, hD⟩ := va_join (wr := [(h1, .inl (cI, 360, .inl g0)), (h3, .inl (cI, 16, .inl g2))]) (w1 := [(h0, .inr (1, [.ref h1, .ref h2, .ref h3, .int a0, .int x_2321, .int a2])), (h2, .inl (cI, 40, .inl f_2322))]) hP hD [2, 3] [0, 1] rfl rfl (by decide) (by decide) hk1 hFc hP1 hD1
              generalize H1 = H at hP hS ⊢
              have hP : va_P (dC, dI) vwCl [(h1, .inl (cI, 360, .inl g0)), (h3, .inl (cI, 16, .inl g2)), (h0, .inr (1, [.ref h1, .ref h2, .ref h3, .int a0, .int x_2321, .int a2])), (h2, .inl (cI, 40, .inl f_2322))] H := hP
              have hD : va_D A [(h1, .inl (cI, 360, .inl g0)), (h3, .inl (cI, 16, .inl g2)), (h0, .inr (1, [.ref h1, .ref h2, .ref h3, .int a0, .int x_2321, .int a2])), (h2, .inl (cI, 40, .inl f_2322))] := hD
              obtain ⟨x_2323, ex_2323⟩ : ∃ y : Int32, y = x_2200 + Int32.ofInt (1) := ⟨_, rfl⟩
              have hx_2323 : rg (1) (360) x_2323 := by rw [ex_2323]; exact rg_mono (rg_add h_2272 (rg_k (x := Int32.ofInt (1)) (c := 1) (by decide)) (by decide) (by decide)) (by decide) (by decide)
              have qx_2323 : x_2323.toInt = x_2200.toInt + (1) := by rw [ex_2323]; exact rg_addE h_2272 (rg_k (x := Int32.ofInt (1)) (c := 1) (by decide)) (by decide) (by decide) (by decide)
              refine lv_iinc (v := x_2323) (lv' := [(1, .int x_2323), (3, .int r_2315), (2, .int x_2275), (0, .ref h0)]) hx hb dX1_value_114 hl (k := 2) rfl (ex_2323.symm) (by decide) rfl (fun ls hl => ?_)
              clear ex_2323
              refine lv_goto (tgt := 7) hx hb dX1_value_117 (by decide) ?_
              exact ih_2268 (f_2322, x_2323, x_2321) H locs ls ⟨hP.sub (ws' := [(h0, .inr (1, [.ref h1, .ref h2, .ref h3, .int a0, .int x_2321, .int a2])), (h1, .inl (cI, 360, .inl g0)), (h2, .inl (cI, 40, .inl f_2322)), (h3, .inl (cI, 16, .inl g2))]) [2, 0, 3, 1] rfl, hD.sub (ws' := [(h0, .inr (1, [.ref h1, .ref h2, .ref h3, .int a0, .int x_2321, .int a2])), (h1, .inl (cI, 360, .inl g0)), (h2, .inl (cI, 40, .inl f_2322)), (h3, .inl (cI, 16, .inl g2))]) [2, 0, 3, 1] (by decide) rfl, hS, lv_sub hl [0, 3] rfl, (rg_mono hx_2323 (by decide) (by decide)), (rg_mono hx_2321 (by decide) (by decide))⟩ (by show ((360) - x_2323.toInt).toNat < ((360) - x_2200.toInt).toNat; have ha := h_2272; simp only [rg] at ha; omega)
            · skip
              exfalso; have ha := h_2313; have hb_ := (rg_k (x := 11) (c := 11) (by decide)); simp only [rg, fa_lt, fa_le, fa_eq, (by decide : (11 : Int32).toInt = 11)] at ha hb_ c_2314; omega
          · skip
            have h_2324 : rg (12) (15) x_2275 := by have ha := h_2311; have hb_ := (rg_k (x := 15) (c := 15) (by decide)); simp only [rg, fa_lt, fa_le, fa_eq, (by decide : (15 : Int32).toInt = 15)] at ha hb_ c_2312; simp only [rg]; omega
            refine lv_aload_n hx hb dX1_value_58 rfl (lv_at hl 2 rfl) ?_
            refine lv_aload_n hx hb dX1_value_59 rfl (lv_at hl 2 rfl) ?_
            refine va_get (D := (dC, dI)) (ci := 1) (v := .ref h3) (C := RX1) (T := TX1) (N := 6) hx hb hts hinX1 hown hK hP 0 rfl rfl 2 (by decide) (hts (.fieldLink RX1 18 "MayRings$Law" "facts" "[I") (List.mem_of_getElem? (i := 8) rfl)) (fun _ h9 => h9) rfl dX1_value_60 ?_
            refine lv_iload_n hx hb dX1_value_63 rfl (lv_at hl 0 rfl) ?_
            refine va_iald hx hb hK hP 3 1 rfl rfl (rg_in (n := 16) (rg_mono h_2324 (by decide) (by decide))) dX1_value_64 ?_
            refine lv_topi (fun x_2325 ex_2325 => ?_)
            have hPc := hP.sub (ws' := [(h0, .inr (1, [.ref h1, .ref h2, .ref h3, .int a0, .int x_2201, .int a2])), (h2, .inl (cI, 40, .inl f_2199))]) [0, 2] rfl
            have hDc := hD.sub (ws' := [(h0, .inr (1, [.ref h1, .ref h2, .ref h3, .int a0, .int x_2201, .int a2])), (h2, .inl (cI, 40, .inl f_2199))]) [0, 2] (by decide) rfl
            have hFc := va_free (wc := [(h0, .inr (1, [.ref h1, .ref h2, .ref h3, .int a0, .int x_2201, .int a2])), (h2, .inl (cI, 40, .inl f_2199))]) hD hS hA [0, 2] rfl
            refine va_callv (va_runV (As := [.int x_2325]) (rest := []) ⟨hx, hb, hml, hown, hts⟩ (c_s_X1_push l dC dI cB cI cJ cZ cP h0 h1 h2 f_2199 h3 a0 x_2201 (rg_mono hx_2201 (by decide) (by decide)) a2 x_2325 H.size) (cwV 1 hts (gd_V (List.mem_of_getElem? (i := 9) rfl) (List.mem_of_getElem? (i := 10) rfl) (List.mem_of_getElem? (i := 11) rfl) (List.mem_of_getElem? (i := 6) rfl) (gd_mono k_s_X1_push (fun _ h => List.mem_cons_of_mem _ (List.mem_append_right _ (List.mem_append_right _ (List.mem_append_right _ (List.mem_append_left _ h))))))) rfl rfl rfl (by decide +kernel) ⟨Nat.le_of_ble_eq_true rfl, Nat.le_of_ble_eq_true rfl⟩) ⟨fun a U g mk q => by obtain ⟨q0, q1, qP, qK, qD⟩ := q; exact ⟨q0, q1, qP, va_K.moved (u := U) (U := U.calling g mk a) (Vm.Alike.refl U.vm) qK, qD⟩, va_recv hK hPc (ci := 1) (q0 := 0) rfl rfl, fun U hU hW => ⟨rfl, by rw [hU], by rw [hU]; exact hPc, va_K.moved hW.alike hK, hDc.weaken (fun _ _ _ _ => trivial)⟩⟩ rfl rfl hl.1 rfl (lv_room (Nat.le_of_ble_eq_true rfl)) dX1_value_65 ⟨Nat.le_of_ble_eq_true rfl, Nat.le_of_ble_eq_true rfl⟩) hS (fun q _ h => hFc q h) hFc (fun u t H1 locs ht hvm hw hB hz1 hk1 hS => ?_)
            obtain ⟨x_2327, f_2328, hx_2327, hP1, hD1⟩ := hB
            rw [ht] at hP1
            obtain ⟨hP, hD⟩ := va_join (wr := [(h1, .inl (cI, 360, .inl g0)), (h3, .inl (cI, 16, .inl g2))]) (w1 := [(h0, .inr (1, [.ref h1, .ref h2, .ref h3, .int a0, .int x_2327, .int a2])), (h2, .inl (cI, 40, .inl f_2328))]) hP hD [0, 2] [1, 3] rfl rfl (by decide) (by decide) hk1 hFc hP1 hD1
            generalize H1 = H at hP hS ⊢
            have hP : va_P (dC, dI) vwCl [(h1, .inl (cI, 360, .inl g0)), (h3, .inl (cI, 16, .inl g2)), (h0, .inr (1, [.ref h1, .ref h2, .ref h3, .int a0, .int x_2327, .int a2])), (h2, .inl (cI, 40, .inl f_2328))] H := hP
            have hD : va_D A [(h1, .inl (cI, 360, .inl g0)), (h3, .inl (cI, 16, .inl g2)), (h0, .inr (1, [.ref h1, .ref h2, .ref h3, .int a0, .int x_2327, .int a2])), (h2, .inl (cI, 40, .inl f_2328))] := hD
            refine lv_goto (tgt := 114) hx hb dX1_value_68 (by decide) ?_
            obtain ⟨x_2329, ex_2329⟩ : ∃ y : Int32, y = x_2200 + Int32.ofInt (1) := ⟨_, rfl⟩
            have hx_2329 : rg (1) (360) x_2329 := by rw [ex_2329]; exact rg_mono (rg_add h_2272 (rg_k (x := Int32.ofInt (1)) (c := 1) (by decide)) (by decide) (by decide)) (by decide) (by decide)
            have qx_2329 : x_2329.toInt = x_2200.toInt + (1) := by rw [ex_2329]; exact rg_addE h_2272 (rg_k (x := Int32.ofInt (1)) (c := 1) (by decide)) (by decide) (by decide) (by decide)
            refine lv_iinc (v := x_2329) (lv' := [(1, .int x_2329), (2, .int x_2275), (0, .ref h0)]) hx hb dX1_value_114 hl (k := 1) rfl (ex_2329.symm) (by decide) rfl (fun ls hl => ?_)
            clear ex_2329
            refine lv_goto (tgt := 7) hx hb dX1_value_117 (by decide) ?_
            exact ih_2268 (f_2328, x_2329, x_2327) H locs ls ⟨hP.sub (ws' := [(h0, .inr (1, [.ref h1, .ref h2, .ref h3, .int a0, .int x_2327, .int a2])), (h1, .inl (cI, 360, .inl g0)), (h2, .inl (cI, 40, .inl f_2328)), (h3, .inl (cI, 16, .inl g2))]) [2, 0, 3, 1] rfl, hD.sub (ws' := [(h0, .inr (1, [.ref h1, .ref h2, .ref h3, .int a0, .int x_2327, .int a2])), (h1, .inl (cI, 360, .inl g0)), (h2, .inl (cI, 40, .inl f_2328)), (h3, .inl (cI, 16, .inl g2))]) [2, 0, 3, 1] (by decide) rfl, hS, lv_sub hl [0, 2] rfl, (rg_mono hx_2329 (by decide) (by decide)), (rg_mono hx_2327 (by decide) (by decide))⟩ (by show ((360) - x_2329.toInt).toNat < ((360) - x_2200.toInt).toNat; have ha := h_2272; simp only [rg] at ha; omega)
    · skip
      have h_2330 : rg (-2147483648) (0) x_2275 := by have ha := (rg_any x_2275); have hb_ := (rg_k (x := 0) (c := 0) (by decide)); simp only [rg, fa_lt, fa_le, fa_eq, (by decide : (0 : Int32).toInt = 0)] at ha hb_ c_2276; simp only [rg]; omega
      refine lv_aload_n hx hb dX1_value_27 rfl (lv_at hl 2 rfl) ?_
      refine lv_aload_n hx hb dX1_value_28 rfl (lv_at hl 2 rfl) ?_
      refine va_get (D := (dC, dI)) (ci := 1) (v := .ref h1) (C := RX1) (T := TX1) (N := 6) hx hb hts hinX1 hown hK hP 0 rfl rfl 0 (by decide) (hts (.fieldLink RX1 11 "MayRings$Law" "codes" "[I") (List.mem_of_getElem? (i := 7) rfl)) (fun _ h9 => h9) rfl dX1_value_29 ?_
      refine lv_iload_n hx hb dX1_value_32 rfl (lv_at hl 1 rfl) ?_
      refine va_iald hx hb hK hP 1 1 rfl rfl (rg_in (n := 360) (rg_mono h_2272 (by decide) (by decide))) dX1_value_33 ?_
      refine tp_v (.int x_2274) (congrArg Value.int (ex_2274.symm)) ?_
      have hPc := hP.sub (ws' := [(h0, .inr (1, [.ref h1, .ref h2, .ref h3, .int a0, .int x_2201, .int a2])), (h2, .inl (cI, 40, .inl f_2199))]) [0, 2] rfl
      have hDc := hD.sub (ws' := [(h0, .inr (1, [.ref h1, .ref h2, .ref h3, .int a0, .int x_2201, .int a2])), (h2, .inl (cI, 40, .inl f_2199))]) [0, 2] (by decide) rfl
      have hFc := va_free (wc := [(h0, .inr (1, [.ref h1, .ref h2, .ref h3, .int a0, .int x_2201, .int a2])), (h2, .inl (cI, 40, .inl f_2199))]) hD hS hA [0, 2] rfl
      refine va_callv (va_runV (As := [.int x_2274]) (rest := []) ⟨hx, hb, hml, hown, hts⟩ (c_s_X1_push l dC dI cB cI cJ cZ cP h0 h1 h2 f_2199 h3 a0 x_2201 (rg_mono hx_2201 (by decide) (by decide)) a2 x_2274 H.size) (cwV 1 hts (gd_V (List.mem_of_getElem? (i := 9) rfl) (List.mem_of_getElem? (i := 10) rfl) (List.mem_of_getElem? (i := 11) rfl) (List.mem_of_getElem? (i := 6) rfl) (gd_mono k_s_X1_push (fun _ h => List.mem_cons_of_mem _ (List.mem_append_right _ (List.mem_append_right _ (List.mem_append_right _ (List.mem_append_left _ h))))))) rfl rfl rfl (by decide +kernel) ⟨Nat.le_of_ble_eq_true rfl, Nat.le_of_ble_eq_true rfl⟩) ⟨fun a U g mk q => by obtain ⟨q0, q1, qP, qK, qD⟩ := q; exact ⟨q0, q1, qP, va_K.moved (u := U) (U := U.calling g mk a) (Vm.Alike.refl U.vm) qK, qD⟩, va_recv hK hPc (ci := 1) (q0 := 0) rfl rfl, fun U hU hW => ⟨rfl, by rw [hU], by rw [hU]; exact hPc, va_K.moved hW.alike hK, hDc.weaken (fun _ _ _ _ => trivial)⟩⟩ rfl rfl hl.1 rfl (lv_room (Nat.le_of_ble_eq_true rfl)) dX1_value_34 ⟨Nat.le_of_ble_eq_true rfl, Nat.le_of_ble_eq_true rfl⟩) hS (fun q _ h => hFc q h) hFc (fun u t H1 locs ht hvm hw hB hz1 hk1 hS => ?_)
      obtain ⟨x_2332, f_2333, hx_2332, hP1, hD1⟩ := hB
      rw [ht] at hP1
      obtain ⟨hP, hD⟩ := va_join (wr := [(h1, .inl (cI, 360, .inl g0)), (h3, .inl (cI, 16, .inl g2))]) (w1 := [(h0, .inr (1, [.ref h1, .ref h2, .ref h3, .int a0, .int x_2332, .int a2])), (h2, .inl (cI, 40, .inl f_2333))]) hP hD [0, 2] [1, 3] rfl rfl (by decide) (by decide) hk1 hFc hP1 hD1
      generalize H1 = H at hP hS ⊢
      have hP : va_P (dC, dI) vwCl [(h1, .inl (cI, 360, .inl g0)), (h3, .inl (cI, 16, .inl g2)), (h0, .inr (1, [.ref h1, .ref h2, .ref h3, .int a0, .int x_2332, .int a2])), (h2, .inl (cI, 40, .inl f_2333))] H := hP
      have hD : va_D A [(h1, .inl (cI, 360, .inl g0)), (h3, .inl (cI, 16, .inl g2)), (h0, .inr (1, [.ref h1, .ref h2, .ref h3, .int a0, .int x_2332, .int a2])), (h2, .inl (cI, 40, .inl f_2333))] := hD
      refine lv_goto (tgt := 114) hx hb dX1_value_37 (by decide) ?_
      obtain ⟨x_2334, ex_2334⟩ : ∃ y : Int32, y = x_2200 + Int32.ofInt (1) := ⟨_, rfl⟩
      have hx_2334 : rg (1) (360) x_2334 := by rw [ex_2334]; exact rg_mono (rg_add h_2272 (rg_k (x := Int32.ofInt (1)) (c := 1) (by decide)) (by decide) (by decide)) (by decide) (by decide)
      have qx_2334 : x_2334.toInt = x_2200.toInt + (1) := by rw [ex_2334]; exact rg_addE h_2272 (rg_k (x := Int32.ofInt (1)) (c := 1) (by decide)) (by decide) (by decide) (by decide)
      refine lv_iinc (v := x_2334) (lv' := [(1, .int x_2334), (2, .int x_2275), (0, .ref h0)]) hx hb dX1_value_114 hl (k := 1) rfl (ex_2334.symm) (by decide) rfl (fun ls hl => ?_)
      clear ex_2334
      refine lv_goto (tgt := 7) hx hb dX1_value_117 (by decide) ?_
      exact ih_2268 (f_2333, x_2334, x_2332) H locs ls ⟨hP.sub (ws' := [(h0, .inr (1, [.ref h1, .ref h2, .ref h3, .int a0, .int x_2332, .int a2])), (h1, .inl (cI, 360, .inl g0)), (h2, .inl (cI, 40, .inl f_2333)), (h3, .inl (cI, 16, .inl g2))]) [2, 0, 3, 1] rfl, hD.sub (ws' := [(h0, .inr (1, [.ref h1, .ref h2, .ref h3, .int a0, .int x_2332, .int a2])), (h1, .inl (cI, 360, .inl g0)), (h2, .inl (cI, 40, .inl f_2333)), (h3, .inl (cI, 16, .inl g2))]) [2, 0, 3, 1] (by decide) rfl, hS, lv_sub hl [0, 2] rfl, (rg_mono hx_2334 (by decide) (by decide)), (rg_mono hx_2332 (by decide) (by decide))⟩ (by show ((360) - x_2334.toInt).toNat < ((360) - x_2200.toInt).toNat; have ha := h_2272; simp only [rg] at ha; omega)
def v_s_X2_add : List Cond := Cond.code yX2_add cX2_add 5 (some .int) :: ([Cond.fieldLink RX2 31 "MayRings$Letters" "count" "I", Cond.fieldLink RX2 11 "MayRings$Letters" "house" "[I", Cond.fieldLink RX2 15 "MayRings$Letters" "where" "[I", Cond.fieldLink RX2 18 "MayRings$Letters" "ofPlace" "[Z", Cond.fieldLink RX2 22 "MayRings$Letters" "isSo" "[Z", Cond.fieldLink RX2 25 "MayRings$Letters" "toldAt" "[I", Cond.fieldLink RX2 35 "MayRings$Letters" "time" "I", Cond.fieldLink RX2 28 "MayRings$Letters" "untoldAt" "[I"] ++ (wsX20 ++ ([])))
theorem k_s_X2_add : GoodIn lw_tbl v_s_X2_add := gd_c (List.mem_of_getElem? (i := 1153) (by decide +kernel)) rfl (goodIn_app (gd_c (List.mem_of_getElem? (i := 410) (by decide +kernel)) rfl (gd_c (List.mem_of_getElem? (i := 404) (by decide +kernel)) rfl (gd_c (List.mem_of_getElem? (i := 405) (by decide +kernel)) rfl (gd_c (List.mem_of_getElem? (i := 406) (by decide +kernel)) rfl (gd_c (List.mem_of_getElem? (i := 407) (by decide +kernel)) rfl (gd_c (List.mem_of_getElem? (i := 408) (by decide +kernel)) rfl (gd_c (List.mem_of_getElem? (i := 412) (by decide +kernel)) rfl (gd_c (List.mem_of_getElem? (i := 409) (by decide +kernel)) rfl (gd_nil))))))))) (goodIn_app kfX2 (gd_nil)))
set_option maxHeartbeats 2000000 in
set_option maxRecDepth 100000 in
theorem c_s_X2_add (l : Launch) (dC : Nat → ClassId) (dI : Nat → Nat → Nat) (cB cI cJ cZ cP : ClassId) (h0 : Nat) (h1 : Nat) (g0 : Nat → Int32) (hg0 : rgA (0) (8) g0) (h2 : Nat) (g1 : Nat → Int32) (hg1 : rgA (0) (8) g1) (h3 : Nat) (g2 : Nat → Int32) (hg2 : rgA (0) (1) g2) (h4 : Nat) (g3 : Nat → Int32) (hg3 : rgA (0) (1) g3) (h5 : Nat) (g4 : Nat → Int32) (h6 : Nat) (g5 : Nat → Int32) (a0 : Int32) (ha0 : rg (0) (20) a0) (a1 : Int32) (p0 : Int32) (hp0 : rg (0) (8) p0) (p1 : Int32) (hp1 : rg (0) (8) p1) (p2 : Int32) (hp2 : rg (0) (1) p2) (p3 : Int32) (hp3 : rg (0) (1) p3) (sz : Nat) : Met l yX2_add v_s_X2_add ({ frames := 0, cells := 0, slots := 0, locals := 0 }) (va_Pc [.ref h0, .int p0, .int p1, .int p2, .int p3] (fun U => U.heap.size = sz ∧ va_P (dC, dI) vwCl [(h0, .inr (2, [.ref h1, .ref h2, .ref h3, .ref h4, .ref h5, .ref h6, .int a0, .int a1])), (h1, .inl (cI, 20, .inl g0)), (h2, .inl (cI, 20, .inl g1)), (h3, .inl (cZ, 20, .inl g2)), (h4, .inl (cZ, 20, .inl g3)), (h5, .inl (cI, 20, .inl g4)), (h6, .inl (cI, 20, .inl g5))] U.heap ∧ va_K (dC, dI) vwCl (ty5 cB cI cJ cZ cP) U ∧ va_D (fun _ => True) [(h0, .inr (2, [.ref h1, .ref h2, .ref h3, .ref h4, .ref h5, .ref h6, .int a0, .int a1])), (h1, .inl (cI, 20, .inl g0)), (h2, .inl (cI, 20, .inl g1)), (h3, .inl (cZ, 20, .inl g2)), (h4, .inl (cZ, 20, .inl g3)), (h5, .inl (cI, 20, .inl g4)), (h6, .inl (cI, 20, .inl g5))])) (va_Qi (fun (r : Int32) (u9 : Unit) => rg (-1) (19) r) (fun u9 t => ∃ (z0 : Int32) (z1 : Nat → Int32) (z2 : Nat → Int32) (z3 : Nat → Int32) (z4 : Nat → Int32) (z5 : Nat → Int32) (z6 : Nat → Int32), rg (0) (20) z0 ∧ rgA (0) (8) z1 ∧ rgA (0) (8) z2 ∧ rgA (0) (1) z3 ∧ rgA (0) (1) z4 ∧ va_P (dC, dI) vwCl [(h0, .inr (2, [.ref h1, .ref h2, .ref h3, .ref h4, .ref h5, .ref h6, .int z0, .int a1])), (h1, .inl (cI, 20, .inl z1)), (h2, .inl (cI, 20, .inl z2)), (h3, .inl (cZ, 20, .inl z3)), (h4, .inl (cZ, 20, .inl z4)), (h5, .inl (cI, 20, .inl z5)), (h6, .inl (cI, 20, .inl z6))] t.heap ∧ va_D (va_A [(h0, .inr (2, [.ref h1, .ref h2, .ref h3, .ref h4, .ref h5, .ref h6, .int a0, .int a1])), (h1, .inl (cI, 20, .inl g0)), (h2, .inl (cI, 20, .inl g1)), (h3, .inl (cZ, 20, .inl g2)), (h4, .inl (cZ, 20, .inl g3)), (h5, .inl (cI, 20, .inl g4)), (h6, .inl (cI, 20, .inl g5))] sz) [(h0, .inr (2, [.ref h1, .ref h2, .ref h3, .ref h4, .ref h5, .ref h6, .int z0, .int a1])), (h1, .inl (cI, 20, .inl z1)), (h2, .inl (cI, 20, .inl z2)), (h3, .inl (cZ, 20, .inl z3)), (h4, .inl (cZ, 20, .inl z4)), (h5, .inl (cI, 20, .inl z5)), (h6, .inl (cI, 20, .inl z6))]) (va_A [(h0, .inr (2, [.ref h1, .ref h2, .ref h3, .ref h4, .ref h5, .ref h6, .int a0, .int a1])), (h1, .inl (cI, 20, .inl g0)), (h2, .inl (cI, 20, .inl g1)), (h3, .inl (cZ, 20, .inl g2)), (h4, .inl (cZ, 20, .inl g3)), (h5, .inl (cI, 20, .inl g4)), (h6, .inl (cI, 20, .inl g5))] sz)) 0 0 (va_A [(h0, .inr (2, [.ref h1, .ref h2, .ref h3, .ref h4, .ref h5, .ref h6, .int a0, .int a1])), (h1, .inl (cI, 20, .inl g0)), (h2, .inl (cI, 20, .inl g1)), (h3, .inl (cZ, 20, .inl g2)), (h4, .inl (cZ, 20, .inl g3)), (h5, .inl (cI, 20, .inl g4)), (h6, .inl (cI, 20, .inl g5))] sz) := by
  refine Met.ofW (cc := cX2_add) (maxL := 5) (ret := (some .int)) (by decide) rfl ?_
  intro p e s m args below meth c s₁ B hml hv
  obtain ⟨rfl, hsz, hP, hK, hD0⟩ := hv
  have hx := B.exec
  have hb := B.bytes
  have hr := B.returns
  have hts := atoms_spec (ws := v_s_X2_add) B.pre
  have hown : s.vm.findClass RX2 = some m.cls := findClass_of_methodNamed B.named
  have hlocks := B.notSynchronized
  have hinX2 : ∀ w ∈ wsX20, w ∈ v_s_X2_add := fun _ h => List.mem_cons_of_mem _ (List.mem_append_right _ (List.mem_append_left _ h))
  subst hsz
  have hD := hD0.self (sz := s.heap.size)
  generalize hAe : va_A [(h0, .inr (2, [.ref h1, .ref h2, .ref h3, .ref h4, .ref h5, .ref h6, .int a0, .int a1])), (h1, .inl (cI, 20, .inl g0)), (h2, .inl (cI, 20, .inl g1)), (h3, .inl (cZ, 20, .inl g2)), (h4, .inl (cZ, 20, .inl g3)), (h5, .inl (cI, 20, .inl g4)), (h6, .inl (cI, 20, .inl g5))] s.heap.size = A at hD ⊢
  have hA : ∀ q : Nat, s.heap.size ≤ q → A q := fun q h => by rw [← hAe]; exact Or.inr h
  have hP : va_P (dC, dI) vwCl [(h0, .inr (2, [.ref h1, .ref h2, .ref h3, .ref h4, .ref h5, .ref h6, .int a0, .int a1])), (h1, .inl (cI, 20, .inl g0)), (h2, .inl (cI, 20, .inl g1)), (h3, .inl (cZ, 20, .inl g2)), (h4, .inl (cZ, 20, .inl g3)), (h5, .inl (cI, 20, .inl g4)), (h6, .inl (cI, 20, .inl g5))] s.heap := hP
  have hl := lv_entry ([.ref h0, .int p0, .int p1, .int p2, .int p3]) (n := 5) (Nat.le_of_ble_eq_true rfl)
  rw [lg_entry_eq]
  generalize (lg_sl ([.ref h0, .int p0, .int p1, .int p2, .int p3]) ++ List.replicate (5 - (lg_sl ([.ref h0, .int p0, .int p1, .int p2, .int p3])).length) Slot.unset).toArray = ls at hl ⊢
  have hl : lv_has ls 5 [(0, .ref h0), (1, .int p0), (2, .int p1), (3, .int p2), (4, .int p3)] := hl
  refine W_gen (A := A) hP (fun H locs hP hS => ?_)
  refine lv_aload_n hx hb dX2_add_0 rfl (lv_at hl 0 rfl) ?_
  refine va_get (D := (dC, dI)) (ci := 2) (v := .int a0) (C := RX2) (T := TX2) (N := 8) hx hb hts hinX2 hown hK hP 0 rfl rfl 6 (by decide) (hts (.fieldLink RX2 31 "MayRings$Letters" "count" "I") (List.mem_of_getElem? (i := 1) rfl)) (fun _ h9 => h9) rfl dX2_add_1 ?_
  refine lv_bipush (v := 20) hx hb dX2_add_4 (by decide) ?_
  refine lv_icmp_lt (tgt := 11) hx hb dX2_add_6 (by decide) (fun c_1 => ?_) (fun c_1 => ?_)
  · skip
    have h_2 : rg (0) (19) a0 := by have ha := ha0; have hb_ := (rg_k (x := 20) (c := 20) (by decide)); simp only [rg, fa_lt, fa_le, fa_eq, (by decide : (20 : Int32).toInt = 20)] at ha hb_ c_1; simp only [rg]; omega
    refine lv_aload_n hx hb dX2_add_11 rfl (lv_at hl 0 rfl) ?_
    refine va_get (D := (dC, dI)) (ci := 2) (v := .ref h1) (C := RX2) (T := TX2) (N := 8) hx hb hts hinX2 hown hK hP 0 rfl rfl 0 (by decide) (hts (.fieldLink RX2 11 "MayRings$Letters" "house" "[I") (List.mem_of_getElem? (i := 2) rfl)) (fun _ h9 => h9) rfl dX2_add_12 ?_
    refine lv_aload_n hx hb dX2_add_15 rfl (lv_at hl 0 rfl) ?_
    refine va_get (D := (dC, dI)) (ci := 2) (v := .int a0) (C := RX2) (T := TX2) (N := 8) hx hb hts hinX2 hown hK hP 0 rfl rfl 6 (by decide) (hts (.fieldLink RX2 31 "MayRings$Letters" "count" "I") (List.mem_of_getElem? (i := 1) rfl)) (fun _ h9 => h9) rfl dX2_add_16 ?_
    refine lv_iload_n hx hb dX2_add_19 rfl (lv_at hl 1 rfl) ?_
    refine va_iast hx hb hK hP hD hS 1 1 rfl rfl (rg_in (n := 20) (rg_mono h_2 (by decide) (by decide))) dX2_add_20 (fun H locs hP hD hS => ?_)
    obtain ⟨f_3, ef_3⟩ : ∃ f : Nat → Int32, f = upd g0 (a0 : Int32).toNatClampNeg p0 := ⟨_, rfl⟩
    rw [← ef_3] at hP hD
    have hf_3 : rgA (0) (8) f_3 := by rw [ef_3]; exact rgA_upd hg0 (rg_mono hp0 (by decide) (by decide))
    clear ef_3
    have hP : va_P (dC, dI) vwCl [(h0, .inr (2, [.ref h1, .ref h2, .ref h3, .ref h4, .ref h5, .ref h6, .int a0, .int a1])), (h1, .inl (cI, 20, .inl f_3)), (h2, .inl (cI, 20, .inl g1)), (h3, .inl (cZ, 20, .inl g2)), (h4, .inl (cZ, 20, .inl g3)), (h5, .inl (cI, 20, .inl g4)), (h6, .inl (cI, 20, .inl g5))] H := hP
    have hD : va_D A [(h0, .inr (2, [.ref h1, .ref h2, .ref h3, .ref h4, .ref h5, .ref h6, .int a0, .int a1])), (h1, .inl (cI, 20, .inl f_3)), (h2, .inl (cI, 20, .inl g1)), (h3, .inl (cZ, 20, .inl g2)), (h4, .inl (cZ, 20, .inl g3)), (h5, .inl (cI, 20, .inl g4)), (h6, .inl (cI, 20, .inl g5))] := hD
    refine lv_aload_n hx hb dX2_add_21 rfl (lv_at hl 0 rfl) ?_
    refine va_get (D := (dC, dI)) (ci := 2) (v := .ref h2) (C := RX2) (T := TX2) (N := 8) hx hb hts hinX2 hown hK hP 0 rfl rfl 1 (by decide) (hts (.fieldLink RX2 15 "MayRings$Letters" "where" "[I") (List.mem_of_getElem? (i := 3) rfl)) (fun _ h9 => h9) rfl dX2_add_22 ?_
    refine lv_aload_n hx hb dX2_add_25 rfl (lv_at hl 0 rfl) ?_
    refine va_get (D := (dC, dI)) (ci := 2) (v := .int a0) (C := RX2) (T := TX2) (N := 8) hx hb hts hinX2 hown hK hP 0 rfl rfl 6 (by decide) (hts (.fieldLink RX2 31 "MayRings$Letters" "count" "I") (List.mem_of_getElem? (i := 1) rfl)) (fun _ h9 => h9) rfl dX2_add_26 ?_
    refine lv_iload_n hx hb dX2_add_29 rfl (lv_at hl 2 rfl) ?_
    refine va_iast hx hb hK hP hD hS 2 1 rfl rfl (rg_in (n := 20) (rg_mono h_2 (by decide) (by decide))) dX2_add_30 (fun H locs hP hD hS => ?_)
    obtain ⟨f_4, ef_4⟩ : ∃ f : Nat → Int32, f = upd g1 (a0 : Int32).toNatClampNeg p1 := ⟨_, rfl⟩
    rw [← ef_4] at hP hD
    have hf_4 : rgA (0) (8) f_4 := by rw [ef_4]; exact rgA_upd hg1 (rg_mono hp1 (by decide) (by decide))
    clear ef_4
    have hP : va_P (dC, dI) vwCl [(h0, .inr (2, [.ref h1, .ref h2, .ref h3, .ref h4, .ref h5, .ref h6, .int a0, .int a1])), (h1, .inl (cI, 20, .inl f_3)), (h2, .inl (cI, 20, .inl f_4)), (h3, .inl (cZ, 20, .inl g2)), (h4, .inl (cZ, 20, .inl g3)), (h5, .inl (cI, 20, .inl g4)), (h6, .inl (cI, 20, .inl g5))] H := hP
    have hD : va_D A [(h0, .inr (2, [.ref h1, .ref h2, .ref h3, .ref h4, .ref h5, .ref h6, .int a0, .int a1])), (h1, .inl (cI, 20, .inl f_3)), (h2, .inl (cI, 20, .inl f_4)), (h3, .inl (cZ, 20, .inl g2)), (h4, .inl (cZ, 20, .inl g3)), (h5, .inl (cI, 20, .inl g4)), (h6, .inl (cI, 20, .inl g5))] := hD
    refine lv_aload_n hx hb dX2_add_31 rfl (lv_at hl 0 rfl) ?_
    refine va_get (D := (dC, dI)) (ci := 2) (v := .ref h3) (C := RX2) (T := TX2) (N := 8) hx hb hts hinX2 hown hK hP 0 rfl rfl 2 (by decide) (hts (.fieldLink RX2 18 "MayRings$Letters" "ofPlace" "[Z") (List.mem_of_getElem? (i := 4) rfl)) (fun _ h9 => h9) rfl dX2_add_32 ?_
    refine lv_aload_n hx hb dX2_add_35 rfl (lv_at hl 0 rfl) ?_
    refine va_get (D := (dC, dI)) (ci := 2) (v := .int a0) (C := RX2) (T := TX2) (N := 8) hx hb hts hinX2 hown hK hP 0 rfl rfl 6 (by decide) (hts (.fieldLink RX2 31 "MayRings$Letters" "count" "I") (List.mem_of_getElem? (i := 1) rfl)) (fun _ h9 => h9) rfl dX2_add_36 ?_
    refine lv_iload_n hx hb dX2_add_39 rfl (lv_at hl 3 rfl) ?_
    refine va_zast hx hb hK hP hD hS 3 3 rfl rfl (rg_in (n := 20) (rg_mono h_2 (by decide) (by decide))) dX2_add_40 (fun H locs hP hD hS => ?_)
    obtain ⟨f_5, ef_5⟩ : ∃ f : Nat → Int32, f = upd g2 (a0 : Int32).toNatClampNeg (vp_nar .boolean p2) := ⟨_, rfl⟩
    rw [← ef_5] at hP hD
    have hf_5 : rgA (0) (1) f_5 := by rw [ef_5]; exact rgA_updZ hg2 (rg_mono hp2 (by decide) (by decide)) (rg_mono hp2 (by decide) (by decide))
    clear ef_5
    have hP : va_P (dC, dI) vwCl [(h0, .inr (2, [.ref h1, .ref h2, .ref h3, .ref h4, .ref h5, .ref h6, .int a0, .int a1])), (h1, .inl (cI, 20, .inl f_3)), (h2, .inl (cI, 20, .inl f_4)), (h3, .inl (cZ, 20, .inl f_5)), (h4, .inl (cZ, 20, .inl g3)), (h5, .inl (cI, 20, .inl g4)), (h6, .inl (cI, 20, .inl g5))] H := hP
    have hD : va_D A [(h0, .inr (2, [.ref h1, .ref h2, .ref h3, .ref h4, .ref h5, .ref h6, .int a0, .int a1])), (h1, .inl (cI, 20, .inl f_3)), (h2, .inl (cI, 20, .inl f_4)), (h3, .inl (cZ, 20, .inl f_5)), (h4, .inl (cZ, 20, .inl g3)), (h5, .inl (cI, 20, .inl g4)), (h6, .inl (cI, 20, .inl g5))] := hD
    refine lv_aload_n hx hb dX2_add_41 rfl (lv_at hl 0 rfl) ?_
    refine va_get (D := (dC, dI)) (ci := 2) (v := .ref h4) (C := RX2) (T := TX2) (N := 8) hx hb hts hinX2 hown hK hP 0 rfl rfl 3 (by decide) (hts (.fieldLink RX2 22 "MayRings$Letters" "isSo" "[Z") (List.mem_of_getElem? (i := 5) rfl)) (fun _ h9 => h9) rfl dX2_add_42 ?_
    refine lv_aload_n hx hb dX2_add_45 rfl (lv_at hl 0 rfl) ?_
    refine va_get (D := (dC, dI)) (ci := 2) (v := .int a0) (C := RX2) (T := TX2) (N := 8) hx hb hts hinX2 hown hK hP 0 rfl rfl 6 (by decide) (hts (.fieldLink RX2 31 "MayRings$Letters" "count" "I") (List.mem_of_getElem? (i := 1) rfl)) (fun _ h9 => h9) rfl dX2_add_46 ?_
    refine lv_iload hx hb dX2_add_49 (lv_at hl 4 rfl) ?_
    refine va_zast hx hb hK hP hD hS 4 3 rfl rfl (rg_in (n := 20) (rg_mono h_2 (by decide) (by decide))) dX2_add_51 (fun H locs hP hD hS => ?_)
    obtain ⟨f_6, ef_6⟩ : ∃ f : Nat → Int32, f = upd g3 (a0 : Int32).toNatClampNeg (vp_nar .boolean p3) := ⟨_, rfl⟩
    rw [← ef_6] at hP hD
    have hf_6 : rgA (0) (1) f_6 := by rw [ef_6]; exact rgA_updZ hg3 (rg_mono hp3 (by decide) (by decide)) (rg_mono hp3 (by decide) (by decide))
    clear ef_6
    have hP : va_P (dC, dI) vwCl [(h0, .inr (2, [.ref h1, .ref h2, .ref h3, .ref h4, .ref h5, .ref h6, .int a0, .int a1])), (h1, .inl (cI, 20, .inl f_3)), (h2, .inl (cI, 20, .inl f_4)), (h3, .inl (cZ, 20, .inl f_5)), (h4, .inl (cZ, 20, .inl f_6)), (h5, .inl (cI, 20, .inl g4)), (h6, .inl (cI, 20, .inl g5))] H := hP
    have hD : va_D A [(h0, .inr (2, [.ref h1, .ref h2, .ref h3, .ref h4, .ref h5, .ref h6, .int a0, .int a1])), (h1, .inl (cI, 20, .inl f_3)), (h2, .inl (cI, 20, .inl f_4)), (h3, .inl (cZ, 20, .inl f_5)), (h4, .inl (cZ, 20, .inl f_6)), (h5, .inl (cI, 20, .inl g4)), (h6, .inl (cI, 20, .inl g5))] := hD
    refine lv_aload_n hx hb dX2_add_52 rfl (lv_at hl 0 rfl) ?_
    refine va_get (D := (dC, dI)) (ci := 2) (v := .ref h5) (C := RX2) (T := TX2) (N := 8) hx hb hts hinX2 hown hK hP 0 rfl rfl 4 (by decide) (hts (.fieldLink RX2 25 "MayRings$Letters" "toldAt" "[I") (List.mem_of_getElem? (i := 6) rfl)) (fun _ h9 => h9) rfl dX2_add_53 ?_
    refine lv_aload_n hx hb dX2_add_56 rfl (lv_at hl 0 rfl) ?_
    refine va_get (D := (dC, dI)) (ci := 2) (v := .int a0) (C := RX2) (T := TX2) (N := 8) hx hb hts hinX2 hown hK hP 0 rfl rfl 6 (by decide) (hts (.fieldLink RX2 31 "MayRings$Letters" "count" "I") (List.mem_of_getElem? (i := 1) rfl)) (fun _ h9 => h9) rfl dX2_add_57 ?_
    refine lv_aload_n hx hb dX2_add_60 rfl (lv_at hl 0 rfl) ?_
    refine va_get (D := (dC, dI)) (ci := 2) (v := .int a1) (C := RX2) (T := TX2) (N := 8) hx hb hts hinX2 hown hK hP 0 rfl rfl 7 (by decide) (hts (.fieldLink RX2 35 "MayRings$Letters" "time" "I") (List.mem_of_getElem? (i := 7) rfl)) (fun _ h9 => h9) rfl dX2_add_61 ?_
    refine va_iast hx hb hK hP hD hS 5 1 rfl rfl (rg_in (n := 20) (rg_mono h_2 (by decide) (by decide))) dX2_add_64 (fun H locs hP hD hS => ?_)
    obtain ⟨f_7, ef_7⟩ : ∃ f : Nat → Int32, f = upd g4 (a0 : Int32).toNatClampNeg a1 := ⟨_, rfl⟩
    rw [← ef_7] at hP hD
    clear ef_7
    have hP : va_P (dC, dI) vwCl [(h0, .inr (2, [.ref h1, .ref h2, .ref h3, .ref h4, .ref h5, .ref h6, .int a0, .int a1])), (h1, .inl (cI, 20, .inl f_3)), (h2, .inl (cI, 20, .inl f_4)), (h3, .inl (cZ, 20, .inl f_5)), (h4, .inl (cZ, 20, .inl f_6)), (h5, .inl (cI, 20, .inl f_7)), (h6, .inl (cI, 20, .inl g5))] H := hP
    have hD : va_D A [(h0, .inr (2, [.ref h1, .ref h2, .ref h3, .ref h4, .ref h5, .ref h6, .int a0, .int a1])), (h1, .inl (cI, 20, .inl f_3)), (h2, .inl (cI, 20, .inl f_4)), (h3, .inl (cZ, 20, .inl f_5)), (h4, .inl (cZ, 20, .inl f_6)), (h5, .inl (cI, 20, .inl f_7)), (h6, .inl (cI, 20, .inl g5))] := hD
    refine lv_aload_n hx hb dX2_add_65 rfl (lv_at hl 0 rfl) ?_
    refine va_get (D := (dC, dI)) (ci := 2) (v := .ref h6) (C := RX2) (T := TX2) (N := 8) hx hb hts hinX2 hown hK hP 0 rfl rfl 5 (by decide) (hts (.fieldLink RX2 28 "MayRings$Letters" "untoldAt" "[I") (List.mem_of_getElem? (i := 8) rfl)) (fun _ h9 => h9) rfl dX2_add_66 ?_
    refine lv_aload_n hx hb dX2_add_69 rfl (lv_at hl 0 rfl) ?_
    refine va_get (D := (dC, dI)) (ci := 2) (v := .int a0) (C := RX2) (T := TX2) (N := 8) hx hb hts hinX2 hown hK hP 0 rfl rfl 6 (by decide) (hts (.fieldLink RX2 31 "MayRings$Letters" "count" "I") (List.mem_of_getElem? (i := 1) rfl)) (fun _ h9 => h9) rfl dX2_add_70 ?_
    refine lv_iconst (v := (-1)) hx hb dX2_add_73 (by decide) ?_
    refine va_iast hx hb hK hP hD hS 6 1 rfl rfl (rg_in (n := 20) (rg_mono h_2 (by decide) (by decide))) dX2_add_74 (fun H locs hP hD hS => ?_)
    obtain ⟨f_8, ef_8⟩ : ∃ f : Nat → Int32, f = upd g5 (a0 : Int32).toNatClampNeg (-1) := ⟨_, rfl⟩
    rw [← ef_8] at hP hD
    clear ef_8
    have hP : va_P (dC, dI) vwCl [(h0, .inr (2, [.ref h1, .ref h2, .ref h3, .ref h4, .ref h5, .ref h6, .int a0, .int a1])), (h1, .inl (cI, 20, .inl f_3)), (h2, .inl (cI, 20, .inl f_4)), (h3, .inl (cZ, 20, .inl f_5)), (h4, .inl (cZ, 20, .inl f_6)), (h5, .inl (cI, 20, .inl f_7)), (h6, .inl (cI, 20, .inl f_8))] H := hP
    have hD : va_D A [(h0, .inr (2, [.ref h1, .ref h2, .ref h3, .ref h4, .ref h5, .ref h6, .int a0, .int a1])), (h1, .inl (cI, 20, .inl f_3)), (h2, .inl (cI, 20, .inl f_4)), (h3, .inl (cZ, 20, .inl f_5)), (h4, .inl (cZ, 20, .inl f_6)), (h5, .inl (cI, 20, .inl f_7)), (h6, .inl (cI, 20, .inl f_8))] := hD
    refine lv_aload_n hx hb dX2_add_75 rfl (lv_at hl 0 rfl) ?_
    refine lv_dup hx hb dX2_add_76 rfl ?_
    refine va_get (D := (dC, dI)) (ci := 2) (v := .int a0) (C := RX2) (T := TX2) (N := 8) hx hb hts hinX2 hown hK hP 0 rfl rfl 6 (by decide) (hts (.fieldLink RX2 31 "MayRings$Letters" "count" "I") (List.mem_of_getElem? (i := 1) rfl)) (fun _ h9 => h9) rfl dX2_add_77 ?_
    refine lv_iconst (v := 1) hx hb dX2_add_80 (by decide) ?_
    refine lv_iadd hx hb dX2_add_81 ?_
    refine lv_topi (fun x_9 ex_9 => ?_)
    have hx_9 : rg (1) (20) x_9 := by rw [ex_9]; exact rg_mono (rg_add h_2 (rg_k (x := 1) (c := 1) (by decide)) (by decide) (by decide)) (by decide) (by decide)
    have qx_9 : x_9.toInt = a0.toInt + (1) := by rw [ex_9]; exact rg_addE h_2 (rg_k (x := 1) (c := 1) (by decide)) (by decide) (by decide) trivial
    refine va_put (D := (dC, dI)) (ci := 2) (v := .int x_9) (ty := .int) (C := RX2) (T := TX2) (N := 8) hx hb hts hinX2 tyX2 tyX2_ok nmX2 hown hK hP hD hS 0 rfl rfl 6 (by decide) (hts (.fieldLink RX2 31 "MayRings$Letters" "count" "I") (List.mem_of_getElem? (i := 1) rfl)) (fun _ h9 => h9) rfl (by decide +kernel) (rfl) (rfl) (Nat.le_of_ble_eq_true rfl) dX2_add_82 (fun H locs hP hD hS => ?_)
    have hP : va_P (dC, dI) vwCl [(h0, .inr (2, [.ref h1, .ref h2, .ref h3, .ref h4, .ref h5, .ref h6, .int x_9, .int a1])), (h1, .inl (cI, 20, .inl f_3)), (h2, .inl (cI, 20, .inl f_4)), (h3, .inl (cZ, 20, .inl f_5)), (h4, .inl (cZ, 20, .inl f_6)), (h5, .inl (cI, 20, .inl f_7)), (h6, .inl (cI, 20, .inl f_8))] H := hP
    have hD : va_D A [(h0, .inr (2, [.ref h1, .ref h2, .ref h3, .ref h4, .ref h5, .ref h6, .int x_9, .int a1])), (h1, .inl (cI, 20, .inl f_3)), (h2, .inl (cI, 20, .inl f_4)), (h3, .inl (cZ, 20, .inl f_5)), (h4, .inl (cZ, 20, .inl f_6)), (h5, .inl (cI, 20, .inl f_7)), (h6, .inl (cI, 20, .inl f_8))] := hD
    refine lv_aload_n hx hb dX2_add_85 rfl (lv_at hl 0 rfl) ?_
    refine va_get (D := (dC, dI)) (ci := 2) (v := .int x_9) (C := RX2) (T := TX2) (N := 8) hx hb hts hinX2 hown hK hP 0 rfl rfl 6 (by decide) (hts (.fieldLink RX2 31 "MayRings$Letters" "count" "I") (List.mem_of_getElem? (i := 1) rfl)) (fun _ h9 => h9) rfl dX2_add_86 ?_
    refine lv_iconst (v := 1) hx hb dX2_add_89 (by decide) ?_
    refine lv_isub hx hb dX2_add_90 ?_
    refine lv_topi (fun x_10 ex_10 => ?_)
    have hx_10 : rg (0) (19) x_10 := by rw [ex_10]; exact rg_mono (rg_sub hx_9 (rg_k (x := 1) (c := 1) (by decide)) (by decide) (by decide)) (by decide) (by decide)
    have qx_10 : x_10.toInt = x_9.toInt + (-1) := by rw [ex_10]; exact rg_subE hx_9 (rg_k (x := 1) (c := 1) (by decide)) (by decide) (by decide) trivial
    have hP9 := hP.sub (ws' := [(h0, .inr (2, [.ref h1, .ref h2, .ref h3, .ref h4, .ref h5, .ref h6, .int x_9, .int a1])), (h1, .inl (cI, 20, .inl f_3)), (h2, .inl (cI, 20, .inl f_4)), (h3, .inl (cZ, 20, .inl f_5)), (h4, .inl (cZ, 20, .inl f_6)), (h5, .inl (cI, 20, .inl f_7)), (h6, .inl (cI, 20, .inl f_8))]) [0, 1, 2, 3, 4, 5, 6] rfl
    have hD9 := hD.sub (ws' := [(h0, .inr (2, [.ref h1, .ref h2, .ref h3, .ref h4, .ref h5, .ref h6, .int x_9, .int a1])), (h1, .inl (cI, 20, .inl f_3)), (h2, .inl (cI, 20, .inl f_4)), (h3, .inl (cZ, 20, .inl f_5)), (h4, .inl (cZ, 20, .inl f_6)), (h5, .inl (cI, 20, .inl f_7)), (h6, .inl (cI, 20, .inl f_8))]) [0, 1, 2, 3, 4, 5, 6] (by decide) rfl
    exact W.iret (v := x_10) hx hb hr (fun t ht hW => ⟨⟨x_10, (), rfl, (rg_mono hx_10 (by decide) (by decide)), ⟨x_9, f_3, f_4, f_5, f_6, f_7, f_8, (rg_mono hx_9 (by decide) (by decide)), hf_3, hf_4, hf_5, hf_6, by rw [ht]; exact hP9, hD9⟩⟩, hS.F ht⟩) hS.2.2 dX2_add_91
  · skip
    have h_11 : rg (20) (20) a0 := by have ha := ha0; have hb_ := (rg_k (x := 20) (c := 20) (by decide)); simp only [rg, fa_lt, fa_le, fa_eq, (by decide : (20 : Int32).toInt = 20)] at ha hb_ c_1; simp only [rg]; omega
    refine lv_iconst (v := (-1)) hx hb dX2_add_9 (by decide) ?_
    have hP9 := hP.sub (ws' := [(h0, .inr (2, [.ref h1, .ref h2, .ref h3, .ref h4, .ref h5, .ref h6, .int a0, .int a1])), (h1, .inl (cI, 20, .inl g0)), (h2, .inl (cI, 20, .inl g1)), (h3, .inl (cZ, 20, .inl g2)), (h4, .inl (cZ, 20, .inl g3)), (h5, .inl (cI, 20, .inl g4)), (h6, .inl (cI, 20, .inl g5))]) [0, 1, 2, 3, 4, 5, 6] rfl
    have hD9 := hD.sub (ws' := [(h0, .inr (2, [.ref h1, .ref h2, .ref h3, .ref h4, .ref h5, .ref h6, .int a0, .int a1])), (h1, .inl (cI, 20, .inl g0)), (h2, .inl (cI, 20, .inl g1)), (h3, .inl (cZ, 20, .inl g2)), (h4, .inl (cZ, 20, .inl g3)), (h5, .inl (cI, 20, .inl g4)), (h6, .inl (cI, 20, .inl g5))]) [0, 1, 2, 3, 4, 5, 6] (by decide) rfl
    exact W.iret (v := (-1)) hx hb hr (fun t ht hW => ⟨⟨(-1), (), rfl, (rg_mono (rg_k (x := (-1)) (c := -1) (by decide)) (by decide) (by decide)), ⟨a0, g0, g1, g2, g3, g4, g5, (rg_mono h_11 (by decide) (by decide)), hg0, hg1, hg2, hg3, by rw [ht]; exact hP9, hD9⟩⟩, hS.F ht⟩) hS.2.2 dX2_add_10
def v_s_X7_heedPair : List Cond := Cond.code yX7_heedPair cX7_heedPair 4 none :: ([Cond.fieldLink RX7 30 "MayRings$Ways" "houses" "I", Cond.fieldLink RX7 44 "MayRings$Ways" "never" "Z", Cond.fieldLink RX7 18 "MayRings$Ways" "must" "[I", Cond.fieldLink RX7 15 "MayRings$Ways" "pairs" "[I"] ++ (wsX70 ++ ([])))
theorem k_s_X7_heedPair : GoodIn lw_tbl v_s_X7_heedPair := gd_c (List.mem_of_getElem? (i := 1186) (by decide +kernel)) rfl (goodIn_app (gd_c (List.mem_of_getElem? (i := 452) (by decide +kernel)) rfl (gd_c (List.mem_of_getElem? (i := 461) (by decide +kernel)) rfl (gd_c (List.mem_of_getElem? (i := 446) (by decide +kernel)) rfl (gd_c (List.mem_of_getElem? (i := 443) (by decide +kernel)) rfl (gd_nil))))) (goodIn_app kfX7 (gd_nil)))
set_option maxHeartbeats 2000000 in
set_option maxRecDepth 100000 in
theorem c_s_X7_heedPair (l : Launch) (dC : Nat → ClassId) (dI : Nat → Nat → Nat) (cB cI cJ cZ cP : ClassId) (h0 : Nat) (h1 : Nat) (h2 : Nat) (g1 : Nat → Int32) (hg1 : rgA (0) (511) g1) (h3 : Nat) (g2 : Nat → Int32) (hg2 : rgA (0) (511) g2) (h4 : Nat) (h5 : Nat) (h6 : Nat) (a0 : Int32) (ha0 : rg (0) (511) a0) (a1 : Int32) (a2 : Int32) (a3 : Int32) (a4 : Int32) (ha4 : rg (0) (1) a4) (a5 : Int32) (a6 : Int32) (a7 : Int32) (p0 : Int32) (hp0 : rg (0) (8) p0) (p1 : Int32) (hp1 : rg (0) (8) p1) (p2 : Int32) (hp2 : rg (0) (1) p2) (sz : Nat) : Met l yX7_heedPair v_s_X7_heedPair ({ frames := 0, cells := 0, slots := 0, locals := 0 }) (va_Pc [.ref h0, .int p0, .int p1, .int p2] (fun U => U.heap.size = sz ∧ va_P (dC, dI) vwCl [(h0, .inr (7, [.ref h1, .ref h2, .ref h3, .ref h4, .ref h5, .ref h6, .int a0, .int a1, .int a2, .int a3, .int a4, .int a5, .int a6, .int a7])), (h2, .inl (cI, 9, .inl g1)), (h3, .inl (cI, 9, .inl g2))] U.heap ∧ va_K (dC, dI) vwCl (ty5 cB cI cJ cZ cP) U ∧ va_D (fun _ => True) [(h0, .inr (7, [.ref h1, .ref h2, .ref h3, .ref h4, .ref h5, .ref h6, .int a0, .int a1, .int a2, .int a3, .int a4, .int a5, .int a6, .int a7])), (h2, .inl (cI, 9, .inl g1)), (h3, .inl (cI, 9, .inl g2))])) (va_Qv (fun _ : Unit => True) (fun _ t => ∃ (z0 : Int32) (z1 : Nat → Int32) (z2 : Nat → Int32), rg (0) (1) z0 ∧ rgA (0) (511) z1 ∧ rgA (0) (511) z2 ∧ va_P (dC, dI) vwCl [(h0, .inr (7, [.ref h1, .ref h2, .ref h3, .ref h4, .ref h5, .ref h6, .int a0, .int a1, .int a2, .int a3, .int z0, .int a5, .int a6, .int a7])), (h2, .inl (cI, 9, .inl z1)), (h3, .inl (cI, 9, .inl z2))] t.heap ∧ va_D (va_A [(h0, .inr (7, [.ref h1, .ref h2, .ref h3, .ref h4, .ref h5, .ref h6, .int a0, .int a1, .int a2, .int a3, .int a4, .int a5, .int a6, .int a7])), (h2, .inl (cI, 9, .inl g1)), (h3, .inl (cI, 9, .inl g2))] sz) [(h0, .inr (7, [.ref h1, .ref h2, .ref h3, .ref h4, .ref h5, .ref h6, .int a0, .int a1, .int a2, .int a3, .int z0, .int a5, .int a6, .int a7])), (h2, .inl (cI, 9, .inl z1)), (h3, .inl (cI, 9, .inl z2))]) (va_A [(h0, .inr (7, [.ref h1, .ref h2, .ref h3, .ref h4, .ref h5, .ref h6, .int a0, .int a1, .int a2, .int a3, .int a4, .int a5, .int a6, .int a7])), (h2, .inl (cI, 9, .inl g1)), (h3, .inl (cI, 9, .inl g2))] sz)) 0 0 (va_A [(h0, .inr (7, [.ref h1, .ref h2, .ref h3, .ref h4, .ref h5, .ref h6, .int a0, .int a1, .int a2, .int a3, .int a4, .int a5, .int a6, .int a7])), (h2, .inl (cI, 9, .inl g1)), (h3, .inl (cI, 9, .inl g2))] sz) := by
  refine Met.ofW (cc := cX7_heedPair) (maxL := 4) (ret := none) (by decide) rfl ?_
  intro p e s m args below meth c s₁ B hml hv
  obtain ⟨rfl, hsz, hP, hK, hD0⟩ := hv
  have hx := B.exec
  have hb := B.bytes
  have hr := B.returns
  have hts := atoms_spec (ws := v_s_X7_heedPair) B.pre
  have hown : s.vm.findClass RX7 = some m.cls := findClass_of_methodNamed B.named
  have hlocks := B.notSynchronized
  have hinX7 : ∀ w ∈ wsX70, w ∈ v_s_X7_heedPair := fun _ h => List.mem_cons_of_mem _ (List.mem_append_right _ (List.mem_append_left _ h))
  subst hsz
  have hD := hD0.self (sz := s.heap.size)
  generalize hAe : va_A [(h0, .inr (7, [.ref h1, .ref h2, .ref h3, .ref h4, .ref h5, .ref h6, .int a0, .int a1, .int a2, .int a3, .int a4, .int a5, .int a6, .int a7])), (h2, .inl (cI, 9, .inl g1)), (h3, .inl (cI, 9, .inl g2))] s.heap.size = A at hD ⊢
  have hA : ∀ q : Nat, s.heap.size ≤ q → A q := fun q h => by rw [← hAe]; exact Or.inr h
  have hP : va_P (dC, dI) vwCl [(h0, .inr (7, [.ref h1, .ref h2, .ref h3, .ref h4, .ref h5, .ref h6, .int a0, .int a1, .int a2, .int a3, .int a4, .int a5, .int a6, .int a7])), (h2, .inl (cI, 9, .inl g1)), (h3, .inl (cI, 9, .inl g2))] s.heap := hP
  have hl := lv_entry ([.ref h0, .int p0, .int p1, .int p2]) (n := 4) (Nat.le_of_ble_eq_true rfl)
  rw [lg_entry_eq]
  generalize (lg_sl ([.ref h0, .int p0, .int p1, .int p2]) ++ List.replicate (4 - (lg_sl ([.ref h0, .int p0, .int p1, .int p2])).length) Slot.unset).toArray = ls at hl ⊢
  have hl : lv_has ls 4 [(0, .ref h0), (1, .int p0), (2, .int p1), (3, .int p2)] := hl
  refine W_gen (A := A) hP (fun H locs hP hS => ?_)
  refine lv_iload_n hx hb dX7_heedPair_0 rfl (lv_at hl 3 rfl) ?_
  refine lv_if_ne (tgt := 35) hx hb dX7_heedPair_1 (by decide) (fun c_1 => ?_) (fun c_1 => ?_)
  · skip
    have h_2 : rg (1) (1) p2 := by have ha := hp2; have hb_ := (rg_k (x := 0) (c := 0) (by decide)); simp only [rg, fa_lt, fa_le, fa_eq, (by decide : (0 : Int32).toInt = 0)] at ha hb_ c_1; simp only [rg]; omega
    refine lv_aload_n hx hb dX7_heedPair_35 rfl (lv_at hl 0 rfl) ?_
    refine va_get (D := (dC, dI)) (ci := 7) (v := .int a0) (C := RX7) (T := TX7) (N := 14) hx hb hts hinX7 hown hK hP 0 rfl rfl 6 (by decide) (hts (.fieldLink RX7 30 "MayRings$Ways" "houses" "I") (List.mem_of_getElem? (i := 1) rfl)) (fun _ h9 => h9) rfl dX7_heedPair_36 ?_
    refine lv_iload_n hx hb dX7_heedPair_39 rfl (lv_at hl 1 rfl) ?_
    refine lv_ishr hx hb dX7_heedPair_40 ?_
    refine lv_topi (fun x_3 ex_3 => ?_)
    have hx_3 : rg (0) (511) x_3 := by rw [ex_3]; exact rg_mono (rg_shr (b := 511) (rg_mono ha0 (by decide) (by decide))) (by decide) (by decide)
    have kx_3_0 : rg 1 2147483647 x_3 → rg 1 (511) a0 := fun hq => rg_shrP ha0 (ex_3 ▸ hq)
    refine lv_aload_n hx hb dX7_heedPair_41 rfl (lv_at hl 0 rfl) ?_
    refine va_get (D := (dC, dI)) (ci := 7) (v := .int a0) (C := RX7) (T := TX7) (N := 14) hx hb hts hinX7 hown hK hP 0 rfl rfl 6 (by decide) (hts (.fieldLink RX7 30 "MayRings$Ways" "houses" "I") (List.mem_of_getElem? (i := 1) rfl)) (fun _ h9 => h9) rfl dX7_heedPair_42 ?_
    refine lv_iload_n hx hb dX7_heedPair_45 rfl (lv_at hl 2 rfl) ?_
    refine lv_ishr hx hb dX7_heedPair_46 ?_
    refine lv_topi (fun x_4 ex_4 => ?_)
    have hx_4 : rg (0) (511) x_4 := by rw [ex_4]; exact rg_mono (rg_shr (b := 511) (rg_mono ha0 (by decide) (by decide))) (by decide) (by decide)
    have kx_4_0 : rg 1 2147483647 x_4 → rg 1 (511) a0 := fun hq => rg_shrP ha0 (ex_4 ▸ hq)
    refine lv_iand hx hb dX7_heedPair_47 ?_
    refine lv_topi (fun x_5 ex_5 => ?_)
    have hx_5 : rg (0) (511) x_5 := by rw [ex_5]; exact rg_mono (rg_andl (b := 511) (rg_mono hx_3 (by decide) (by decide))) (by decide) (by decide)
    have kx_5_0 : rg 1 2147483647 x_5 → rg 1 (511) x_3 := fun hq => rg_andP hx_3 (ex_5 ▸ hq)
    have kx_5_1 : rg 1 2147483647 x_5 → rg 1 (511) x_4 := fun hq => rg_andP' hx_4 (ex_5 ▸ hq)
    refine lv_iconst (v := 1) hx hb dX7_heedPair_48 (by decide) ?_
    refine lv_iand hx hb dX7_heedPair_49 ?_
    refine lv_topi (fun x_6 ex_6 => ?_)
    have hx_6 : rg (0) (1) x_6 := by rw [ex_6]; exact rg_mono (rg_andr (b := 1) (rg_mono (rg_k (x := 1) (c := 1) (by decide)) (by decide) (by decide))) (by decide) (by decide)
    have kx_6_0 : rg 1 2147483647 x_6 → rg 1 (511) x_5 := fun hq => rg_andP hx_5 (ex_6 ▸ hq)
    refine lv_iconst (v := 1) hx hb dX7_heedPair_50 (by decide) ?_
    refine lv_icmp_ne (tgt := 81) hx hb dX7_heedPair_51 (by decide) (fun c_7 => ?_) (fun c_7 => ?_)
    · skip
      have h_8 : rg (0) (0) x_6 := by have ha := hx_6; have hb_ := (rg_k (x := 1) (c := 1) (by decide)); simp only [rg, fa_lt, fa_le, fa_eq, (by decide : (1 : Int32).toInt = 1)] at ha hb_ c_7; simp only [rg]; omega
      refine lv_aload_n hx hb dX7_heedPair_81 rfl (lv_at hl 0 rfl) ?_
      refine lv_iconst (v := 1) hx hb dX7_heedPair_82 (by decide) ?_
      refine va_put (D := (dC, dI)) (ci := 7) (v := .int 1) (ty := .boolean) (C := RX7) (T := TX7) (N := 14) hx hb hts hinX7 tyX7 tyX7_ok nmX7 hown hK hP hD hS 0 rfl rfl 10 (by decide) (hts (.fieldLink RX7 44 "MayRings$Ways" "never" "Z") (List.mem_of_getElem? (i := 2) rfl)) (fun _ h9 => h9) rfl (by decide +kernel) (rfl) (rfl) (Nat.le_of_ble_eq_true rfl) dX7_heedPair_83 (fun H locs hP hD hS => ?_)
      have hP : va_P (dC, dI) vwCl [(h0, .inr (7, [.ref h1, .ref h2, .ref h3, .ref h4, .ref h5, .ref h6, .int a0, .int a1, .int a2, .int a3, .int 1, .int a5, .int a6, .int a7])), (h2, .inl (cI, 9, .inl g1)), (h3, .inl (cI, 9, .inl g2))] H := hP
      have hD : va_D A [(h0, .inr (7, [.ref h1, .ref h2, .ref h3, .ref h4, .ref h5, .ref h6, .int a0, .int a1, .int a2, .int a3, .int 1, .int a5, .int a6, .int a7])), (h2, .inl (cI, 9, .inl g1)), (h3, .inl (cI, 9, .inl g2))] := hD
      have hP9 := hP.sub (ws' := [(h0, .inr (7, [.ref h1, .ref h2, .ref h3, .ref h4, .ref h5, .ref h6, .int a0, .int a1, .int a2, .int a3, .int 1, .int a5, .int a6, .int a7])), (h2, .inl (cI, 9, .inl g1)), (h3, .inl (cI, 9, .inl g2))]) [0, 1, 2] rfl
      have hD9 := hD.sub (ws' := [(h0, .inr (7, [.ref h1, .ref h2, .ref h3, .ref h4, .ref h5, .ref h6, .int a0, .int a1, .int a2, .int a3, .int 1, .int a5, .int a6, .int a7])), (h2, .inl (cI, 9, .inl g1)), (h3, .inl (cI, 9, .inl g2))]) [0, 1, 2] (by decide) rfl
      exact W.vret hx hb hr (fun t ht hW => ⟨⟨(), rfl, trivial, ⟨1, g1, g2, (rg_mono (rg_k (x := 1) (c := 1) (by decide)) (by decide) (by decide)), hg1, hg2, by rw [ht]; exact hP9, hD9⟩⟩, hS.F ht⟩) hS.2.2 dX7_heedPair_86
    · skip
      have h_9 : rg (1) (1) x_6 := by have ha := hx_6; have hb_ := (rg_k (x := 1) (c := 1) (by decide)); simp only [rg, fa_lt, fa_le, fa_eq, (by decide : (1 : Int32).toInt = 1)] at ha hb_ c_7; simp only [rg]; omega
      have h_10 : rg (1) (511) x_5 := rg_meet hx_5 (kx_6_0 (rg_mono h_9 (by decide) (by decide))) (by decide) (by decide)
      have h_11 : rg (1) (511) x_3 := rg_meet hx_3 (kx_5_0 (rg_mono h_10 (by decide) (by decide))) (by decide) (by decide)
      have h_12 : rg (1) (511) a0 := rg_meet ha0 (kx_3_0 (rg_mono h_11 (by decide) (by decide))) (by decide) (by decide)
      have h_13 : rg (1) (511) x_4 := rg_meet hx_4 (kx_5_1 (rg_mono h_10 (by decide) (by decide))) (by decide) (by decide)
      refine lv_aload_n hx hb dX7_heedPair_54 rfl (lv_at hl 0 rfl) ?_
      refine va_get (D := (dC, dI)) (ci := 7) (v := .ref h3) (C := RX7) (T := TX7) (N := 14) hx hb hts hinX7 hown hK hP 0 rfl rfl 2 (by decide) (hts (.fieldLink RX7 18 "MayRings$Ways" "must" "[I") (List.mem_of_getElem? (i := 3) rfl)) (fun _ h9 => h9) rfl dX7_heedPair_55 ?_
      refine lv_iload_n hx hb dX7_heedPair_58 rfl (lv_at hl 1 rfl) ?_
      refine lv_dup2_11 hx hb dX7_heedPair_59 rfl rfl ?_
      refine va_iald hx hb hK hP 2 1 rfl rfl (rg_in (n := 9) (rg_mono hp0 (by decide) (by decide))) dX7_heedPair_60 ?_
      refine lv_topi (fun x_14 ex_14 => ?_)
      have hx_14 : rg (0) (511) x_14 := by rw [ex_14]; exact rg_mono (hg2 _) (by decide) (by decide)
      refine lv_iconst (v := 1) hx hb dX7_heedPair_61 (by decide) ?_
      refine lv_iload_n hx hb dX7_heedPair_62 rfl (lv_at hl 2 rfl) ?_
      refine lv_ishl hx hb dX7_heedPair_63 ?_
      refine lv_topi (fun x_15 ex_15 => ?_)
      have hx_15 : rg (1) (256) x_15 := by rw [ex_15]; exact rg_mono (rg_shl1 8 (rg_mono hp1 (by decide) (by decide)) (by decide)) (by decide) (by decide)
      refine lv_ior hx hb dX7_heedPair_64 ?_
      refine lv_topi (fun x_16 ex_16 => ?_)
      have hx_16 : rg (0) (511) x_16 := by rw [ex_16]; exact rg_mono (rg_or 9 (rg_mono hx_14 (by decide) (by decide)) (rg_mono hx_15 (by decide) (by decide)) (by decide)) (by decide) (by decide)
      refine va_iast hx hb hK hP hD hS 2 1 rfl rfl (rg_in (n := 9) (rg_mono hp0 (by decide) (by decide))) dX7_heedPair_65 (fun H locs hP hD hS => ?_)
      obtain ⟨f_17, ef_17⟩ : ∃ f : Nat → Int32, f = upd g2 (p0 : Int32).toNatClampNeg x_16 := ⟨_, rfl⟩
      rw [← ef_17] at hP hD
      have hf_17 : rgA (0) (511) f_17 := by rw [ef_17]; exact rgA_upd hg2 (rg_mono hx_16 (by decide) (by decide))
      clear ef_17
      have hP : va_P (dC, dI) vwCl [(h0, .inr (7, [.ref h1, .ref h2, .ref h3, .ref h4, .ref h5, .ref h6, .int a0, .int a1, .int a2, .int a3, .int a4, .int a5, .int a6, .int a7])), (h2, .inl (cI, 9, .inl g1)), (h3, .inl (cI, 9, .inl f_17))] H := hP
      have hD : va_D A [(h0, .inr (7, [.ref h1, .ref h2, .ref h3, .ref h4, .ref h5, .ref h6, .int a0, .int a1, .int a2, .int a3, .int a4, .int a5, .int a6, .int a7])), (h2, .inl (cI, 9, .inl g1)), (h3, .inl (cI, 9, .inl f_17))] := hD
      refine lv_aload_n hx hb dX7_heedPair_66 rfl (lv_at hl 0 rfl) ?_
      refine va_get (D := (dC, dI)) (ci := 7) (v := .ref h3) (C := RX7) (T := TX7) (N := 14) hx hb hts hinX7 hown hK hP 0 rfl rfl 2 (by decide) (hts (.fieldLink RX7 18 "MayRings$Ways" "must" "[I") (List.mem_of_getElem? (i := 3) rfl)) (fun _ h9 => h9) rfl dX7_heedPair_67 ?_
      refine lv_iload_n hx hb dX7_heedPair_70 rfl (lv_at hl 2 rfl) ?_
      refine lv_dup2_11 hx hb dX7_heedPair_71 rfl rfl ?_
      refine va_iald hx hb hK hP 2 1 rfl rfl (rg_in (n := 9) (rg_mono hp1 (by decide) (by decide))) dX7_heedPair_72 ?_
      refine lv_topi (fun x_18 ex_18 => ?_)
      have hx_18 : rg (0) (511) x_18 := by rw [ex_18]; exact rg_mono (hf_17 _) (by decide) (by decide)
      refine lv_iconst (v := 1) hx hb dX7_heedPair_73 (by decide) ?_
      refine lv_iload_n hx hb dX7_heedPair_74 rfl (lv_at hl 1 rfl) ?_
      refine lv_ishl hx hb dX7_heedPair_75 ?_
      refine lv_topi (fun x_19 ex_19 => ?_)
      have hx_19 : rg (1) (256) x_19 := by rw [ex_19]; exact rg_mono (rg_shl1 8 (rg_mono hp0 (by decide) (by decide)) (by decide)) (by decide) (by decide)
      refine lv_ior hx hb dX7_heedPair_76 ?_
      refine lv_topi (fun x_20 ex_20 => ?_)
      have hx_20 : rg (0) (511) x_20 := by rw [ex_20]; exact rg_mono (rg_or 9 (rg_mono hx_18 (by decide) (by decide)) (rg_mono hx_19 (by decide) (by decide)) (by decide)) (by decide) (by decide)
      refine va_iast hx hb hK hP hD hS 2 1 rfl rfl (rg_in (n := 9) (rg_mono hp1 (by decide) (by decide))) dX7_heedPair_77 (fun H locs hP hD hS => ?_)
      obtain ⟨f_21, ef_21⟩ : ∃ f : Nat → Int32, f = upd f_17 (p1 : Int32).toNatClampNeg x_20 := ⟨_, rfl⟩
      rw [← ef_21] at hP hD
      have hf_21 : rgA (0) (511) f_21 := by rw [ef_21]; exact rgA_upd hf_17 (rg_mono hx_20 (by decide) (by decide))
      clear ef_21
      have hP : va_P (dC, dI) vwCl [(h0, .inr (7, [.ref h1, .ref h2, .ref h3, .ref h4, .ref h5, .ref h6, .int a0, .int a1, .int a2, .int a3, .int a4, .int a5, .int a6, .int a7])), (h2, .inl (cI, 9, .inl g1)), (h3, .inl (cI, 9, .inl f_21))] H := hP
      have hD : va_D A [(h0, .inr (7, [.ref h1, .ref h2, .ref h3, .ref h4, .ref h5, .ref h6, .int a0, .int a1, .int a2, .int a3, .int a4, .int a5, .int a6, .int a7])), (h2, .inl (cI, 9, .inl g1)), (h3, .inl (cI, 9, .inl f_21))] := hD
      refine lv_goto (tgt := 86) hx hb dX7_heedPair_78 (by decide) ?_
      have hP9 := hP.sub (ws' := [(h0, .inr (7, [.ref h1, .ref h2, .ref h3, .ref h4, .ref h5, .ref h6, .int a0, .int a1, .int a2, .int a3, .int a4, .int a5, .int a6, .int a7])), (h2, .inl (cI, 9, .inl g1)), (h3, .inl (cI, 9, .inl f_21))]) [0, 1, 2] rfl
      have hD9 := hD.sub (ws' := [(h0, .inr (7, [.ref h1, .ref h2, .ref h3, .ref h4, .ref h5, .ref h6, .int a0, .int a1, .int a2, .int a3, .int a4, .int a5, .int a6, .int a7])), (h2, .inl (cI, 9, .inl g1)), (h3, .inl (cI, 9, .inl f_21))]) [0, 1, 2] (by decide) rfl
      exact W.vret hx hb hr (fun t ht hW => ⟨⟨(), rfl, trivial, ⟨a4, g1, f_21, (rg_mono ha4 (by decide) (by decide)), hg1, hf_21, by rw [ht]; exact hP9, hD9⟩⟩, hS.F ht⟩) hS.2.2 dX7_heedPair_86
  · skip
    have h_22 : rg (0) (0) p2 := by have ha := hp2; have hb_ := (rg_k (x := 0) (c := 0) (by decide)); simp only [rg, fa_lt, fa_le, fa_eq, (by decide : (0 : Int32).toInt = 0)] at ha hb_ c_1; simp only [rg]; omega
    refine lv_aload_n hx hb dX7_heedPair_4 rfl (lv_at hl 0 rfl) ?_
    refine va_get (D := (dC, dI)) (ci := 7) (v := .ref h2) (C := RX7) (T := TX7) (N := 14) hx hb hts hinX7 hown hK hP 0 rfl rfl 1 (by decide) (hts (.fieldLink RX7 15 "MayRings$Ways" "pairs" "[I") (List.mem_of_getElem? (i := 4) rfl)) (fun _ h9 => h9) rfl dX7_heedPair_5 ?_
    refine lv_iload_n hx hb dX7_heedPair_8 rfl (lv_at hl 1 rfl) ?_
    refine lv_dup2_11 hx hb dX7_heedPair_9 rfl rfl ?_
    refine va_iald hx hb hK hP 1 1 rfl rfl (rg_in (n := 9) (rg_mono hp0 (by decide) (by decide))) dX7_heedPair_10 ?_
    refine lv_topi (fun x_23 ex_23 => ?_)
    have hx_23 : rg (0) (511) x_23 := by rw [ex_23]; exact rg_mono (hg1 _) (by decide) (by decide)
    refine lv_iconst (v := 1) hx hb dX7_heedPair_11 (by decide) ?_
    refine lv_iload_n hx hb dX7_heedPair_12 rfl (lv_at hl 2 rfl) ?_
    refine lv_ishl hx hb dX7_heedPair_13 ?_
    refine lv_topi (fun x_24 ex_24 => ?_)
    have hx_24 : rg (1) (256) x_24 := by rw [ex_24]; exact rg_mono (rg_shl1 8 (rg_mono hp1 (by decide) (by decide)) (by decide)) (by decide) (by decide)
    refine lv_iconst (v := (-1)) hx hb dX7_heedPair_14 (by decide) ?_
    refine lv_ixor hx hb dX7_heedPair_15 ?_
    refine lv_topi (fun x_25 ex_25 => ?_)
    refine lv_iand hx hb dX7_heedPair_16 ?_
    refine lv_topi (fun x_26 ex_26 => ?_)
    have hx_26 : rg (0) (511) x_26 := by rw [ex_26]; exact rg_mono (rg_andl (b := 511) (rg_mono hx_23 (by decide) (by decide))) (by decide) (by decide)
    have kx_26_0 : rg 1 2147483647 x_26 → rg 1 (511) x_23 := fun hq => rg_andP hx_23 (ex_26 ▸ hq)
    refine va_iast hx hb hK hP hD hS 1 1 rfl rfl (rg_in (n := 9) (rg_mono hp0 (by decide) (by decide))) dX7_heedPair_17 (fun H locs hP hD hS => ?_)
    obtain ⟨f_27, ef_27⟩ : ∃ f : Nat → Int32, f = upd g1 (p0 : Int32).toNatClampNeg x_26 := ⟨_, rfl⟩
    rw [← ef_27] at hP hD
    have hf_27 : rgA (0) (511) f_27 := by rw [ef_27]; exact rgA_upd hg1 (rg_mono hx_26 (by decide) (by decide))
    clear ef_27
    have hP : va_P (dC, dI) vwCl [(h0, .inr (7, [.ref h1, .ref h2, .ref h3, .ref h4, .ref h5, .ref h6, .int a0, .int a1, .int a2, .int a3, .int a4, .int a5, .int a6, .int a7])), (h2, .inl (cI, 9, .inl f_27)), (h3, .inl (cI, 9, .inl g2))] H := hP
    have hD : va_D A [(h0, .inr (7, [.ref h1, .ref h2, .ref h3, .ref h4, .ref h5, .ref h6, .int a0, .int a1, .int a2, .int a3, .int a4, .int a5, .int a6, .int a7])), (h2, .inl (cI, 9, .inl f_27)), (h3, .inl (cI, 9, .inl g2))] := hD
    refine lv_aload_n hx hb dX7_heedPair_18 rfl (lv_at hl 0 rfl) ?_
    refine va_get (D := (dC, dI)) (ci := 7) (v := .ref h2) (C := RX7) (T := TX7) (N := 14) hx hb hts hinX7 hown hK hP 0 rfl rfl 1 (by decide) (hts (.fieldLink RX7 15 "MayRings$Ways" "pairs" "[I") (List.mem_of_getElem? (i := 4) rfl)) (fun _ h9 => h9) rfl dX7_heedPair_19 ?_
    refine lv_iload_n hx hb dX7_heedPair_22 rfl (lv_at hl 2 rfl) ?_
    refine lv_dup2_11 hx hb dX7_heedPair_23 rfl rfl ?_
    refine va_iald hx hb hK hP 1 1 rfl rfl (rg_in (n := 9) (rg_mono hp1 (by decide) (by decide))) dX7_heedPair_24 ?_
    refine lv_topi (fun x_28 ex_28 => ?_)
    have hx_28 : rg (0) (511) x_28 := by rw [ex_28]; exact rg_mono (hf_27 _) (by decide) (by decide)
    refine lv_iconst (v := 1) hx hb dX7_heedPair_25 (by decide) ?_
    refine lv_iload_n hx hb dX7_heedPair_26 rfl (lv_at hl 1 rfl) ?_
    refine lv_ishl hx hb dX7_heedPair_27 ?_
    refine lv_topi (fun x_29 ex_29 => ?_)
    have hx_29 : rg (1) (256) x_29 := by rw [ex_29]; exact rg_mono (rg_shl1 8 (rg_mono hp0 (by decide) (by decide)) (by decide)) (by decide) (by decide)
    refine lv_iconst (v := (-1)) hx hb dX7_heedPair_28 (by decide) ?_
    refine lv_ixor hx hb dX7_heedPair_29 ?_
    refine lv_topi (fun x_30 ex_30 => ?_)
    refine lv_iand hx hb dX7_heedPair_30 ?_
    refine lv_topi (fun x_31 ex_31 => ?_)
    have hx_31 : rg (0) (511) x_31 := by rw [ex_31]; exact rg_mono (rg_andl (b := 511) (rg_mono hx_28 (by decide) (by decide))) (by decide) (by decide)
    have kx_31_0 : rg 1 2147483647 x_31 → rg 1 (511) x_28 := fun hq => rg_andP hx_28 (ex_31 ▸ hq)
    refine va_iast hx hb hK hP hD hS 1 1 rfl rfl (rg_in (n := 9) (rg_mono hp1 (by decide) (by decide))) dX7_heedPair_31 (fun H locs hP hD hS => ?_)
    obtain ⟨f_32, ef_32⟩ : ∃ f : Nat → Int32, f = upd f_27 (p1 : Int32).toNatClampNeg x_31 := ⟨_, rfl⟩
    rw [← ef_32] at hP hD
    have hf_32 : rgA (0) (511) f_32 := by rw [ef_32]; exact rgA_upd hf_27 (rg_mono hx_31 (by decide) (by decide))
    clear ef_32
    have hP : va_P (dC, dI) vwCl [(h0, .inr (7, [.ref h1, .ref h2, .ref h3, .ref h4, .ref h5, .ref h6, .int a0, .int a1, .int a2, .int a3, .int a4, .int a5, .int a6, .int a7])), (h2, .inl (cI, 9, .inl f_32)), (h3, .inl (cI, 9, .inl g2))] H := hP
    have hD : va_D A [(h0, .inr (7, [.ref h1, .ref h2, .ref h3, .ref h4, .ref h5, .ref h6, .int a0, .int a1, .int a2, .int a3, .int a4, .int a5, .int a6, .int a7])), (h2, .inl (cI, 9, .inl f_32)), (h3, .inl (cI, 9, .inl g2))] := hD
    refine lv_goto (tgt := 86) hx hb dX7_heedPair_32 (by decide) ?_
    have hP9 := hP.sub (ws' := [(h0, .inr (7, [.ref h1, .ref h2, .ref h3, .ref h4, .ref h5, .ref h6, .int a0, .int a1, .int a2, .int a3, .int a4, .int a5, .int a6, .int a7])), (h2, .inl (cI, 9, .inl f_32)), (h3, .inl (cI, 9, .inl g2))]) [0, 1, 2] rfl
    have hD9 := hD.sub (ws' := [(h0, .inr (7, [.ref h1, .ref h2, .ref h3, .ref h4, .ref h5, .ref h6, .int a0, .int a1, .int a2, .int a3, .int a4, .int a5, .int a6, .int a7])), (h2, .inl (cI, 9, .inl f_32)), (h3, .inl (cI, 9, .inl g2))]) [0, 1, 2] (by decide) rfl
    exact W.vret hx hb hr (fun t ht hW => ⟨⟨(), rfl, trivial, ⟨a4, f_32, g2, (rg_mono ha4 (by decide) (by decide)), hf_32, hg2, by rw [ht]; exact hP9, hD9⟩⟩, hS.F ht⟩) hS.2.2 dX7_heedPair_86
