def v_s_J0_isLatin1_aae02 : List Cond := Cond.code yJ0_isLatin1_aae02 cJ0_isLatin1_aae02 1 (some .boolean) :: ([Cond.fieldLink RJ0 38 "java/lang/String" "COMPACT_STRINGS" "Z", Cond.fieldLink RJ0 15 "java/lang/String" "coder" "B"] ++ ([]))
theorem k_s_J0_isLatin1_aae02 : GoodIn lw_tbl v_s_J0_isLatin1_aae02 := gd_c (List.mem_of_getElem? (i := 273) (by decide +kernel)) rfl (goodIn_app (gd_c (List.mem_of_getElem? (i := 264) (by decide +kernel)) rfl (gd_c (List.mem_of_getElem? (i := 1871) (by decide +kernel)) rfl (gd_nil))) (gd_nil))
set_option maxHeartbeats 2000000 in
set_option maxRecDepth 100000 in
theorem c_s_J0_isLatin1_aae02 (l : Launch) (dC : Nat → ClassId) (dI : Nat → Nat → Nat) (cB cI cJ cZ cP : ClassId) (ks vs : Nat) (fb : Nat → Int32) (sz : Nat) : Met l yJ0_isLatin1_aae02 v_s_J0_isLatin1_aae02 ({ frames := 0, cells := 0, slots := 0, locals := 0 }) (va_Pc [.ref ks] (fun U => U.heap.size = sz ∧ va_P (dC, dI) vwCl [] U.heap ∧ va_K (dC, dI) vwCl (ty5 cB cI cJ cZ cP) U ∧ va_D (fun _ => True) [] ∧ SO2 ks vs fb (va_A [] sz) U U.heap)) (va_Qi (fun (r : Int32) (u9 : Unit) => r = 1) (fun u9 t => va_P (dC, dI) vwCl [] t.heap ∧ va_D (va_A [] sz) []) (va_A [] sz)) 0 0 (va_A [] sz) := by
  refine Met.ofW (cc := cJ0_isLatin1_aae02) (maxL := 1) (ret := (some .boolean)) (by decide) rfl ?_
  intro p e s m args below meth c s₁ B hml hv
  obtain ⟨rfl, hsz, hP, hK, hD0, hNso⟩ := hv
  have hx := B.exec
  have hb := B.bytes
  have hr := B.returns
  have hts := atoms_spec (ws := v_s_J0_isLatin1_aae02) B.pre
  have hown : s.vm.findClass RJ0 = some m.cls := findClass_of_methodNamed B.named
  have hlocks := B.notSynchronized
  subst hsz
  have hD := hD0.self (sz := s.heap.size)
  generalize hAe : va_A [] s.heap.size = A at hD hNso ⊢
  have hA : ∀ q : Nat, s.heap.size ≤ q → A q := fun q h => by rw [← hAe]; exact Or.inr h
  have hP : va_P (dC, dI) vwCl [] s.heap := hP
  have hl := lv_entry ([.ref ks]) (n := 1) (Nat.le_of_ble_eq_true rfl)
  rw [lg_entry_eq]
  generalize (lg_sl ([.ref ks]) ++ List.replicate (1 - (lg_sl ([.ref ks])).length) Slot.unset).toArray = ls at hl ⊢
  have hl : lv_has ls 1 [(0, .ref ks)] := hl
  refine W_gen (A := A) hP (fun H locs hP hS => ?_)
  refine va_gets (v := .int 1) hx hb hNso.2.2.2.2 hS hown (hts (.fieldLink RJ0 38 "java/lang/String" "COMPACT_STRINGS" "Z") (List.mem_of_getElem? (i := 1) rfl)) (fun _ h => h) dJ0_isLatin1_aae02_0 ?_
  refine lv_if_eq (tgt := 17) hx hb dJ0_isLatin1_aae02_3 (by decide) (fun cz => absurd cz (by decide)) (fun _ => ?_)
  refine lv_aload_n hx hb dJ0_isLatin1_aae02_6 rfl (lv_at hl 0 rfl) ?_
  refine vk_getf (v := .int 0) hx hb hNso.2.1 hS hown (hts (.fieldLink RJ0 15 "java/lang/String" "coder" "B") (List.mem_of_getElem? (i := 2) rfl)) (fun _ h => h) dJ0_isLatin1_aae02_7 ?_
  refine lv_if_ne (tgt := 17) hx hb dJ0_isLatin1_aae02_10 (by decide) (fun cz => absurd (by decide) cz) (fun _ => ?_)
  refine lv_iconst (v := 1) hx hb dJ0_isLatin1_aae02_13 (by decide) ?_
  refine lv_goto (tgt := 18) hx hb dJ0_isLatin1_aae02_14 (by decide) ?_
  have hP9 := hP.sub (ws' := []) [] rfl
  have hD9 := hD.sub (ws' := []) [] (by decide) rfl
  exact W.zret (v := 1) hx hb hr (rfl) (fun t ht hW => ⟨⟨1, (), rfl, rfl, ⟨by rw [ht]; exact hP9, hD9⟩⟩, hS.F ht⟩) hS.2.2 dJ0_isLatin1_aae02_18
def v_s_J0_coder_7d493 : List Cond := Cond.code yJ0_coder_7d493 cJ0_coder_7d493 1 (some .byte) :: ([Cond.fieldLink RJ0 38 "java/lang/String" "COMPACT_STRINGS" "Z", Cond.fieldLink RJ0 15 "java/lang/String" "coder" "B"] ++ ([]))
theorem k_s_J0_coder_7d493 : GoodIn lw_tbl v_s_J0_coder_7d493 := gd_c (List.mem_of_getElem? (i := 263) (by decide +kernel)) rfl (goodIn_app (gd_c (List.mem_of_getElem? (i := 264) (by decide +kernel)) rfl (gd_c (List.mem_of_getElem? (i := 1871) (by decide +kernel)) rfl (gd_nil))) (gd_nil))
set_option maxHeartbeats 2000000 in
set_option maxRecDepth 100000 in
theorem c_s_J0_coder_7d493 (l : Launch) (dC : Nat → ClassId) (dI : Nat → Nat → Nat) (cB cI cJ cZ cP : ClassId) (ks vs : Nat) (fb : Nat → Int32) (sz : Nat) : Met l yJ0_coder_7d493 v_s_J0_coder_7d493 ({ frames := 0, cells := 0, slots := 0, locals := 0 }) (va_Pc [.ref ks] (fun U => U.heap.size = sz ∧ va_P (dC, dI) vwCl [] U.heap ∧ va_K (dC, dI) vwCl (ty5 cB cI cJ cZ cP) U ∧ va_D (fun _ => True) [] ∧ SO2 ks vs fb (va_A [] sz) U U.heap)) (va_Qi (fun (r : Int32) (u9 : Unit) => r = 0) (fun u9 t => va_P (dC, dI) vwCl [] t.heap ∧ va_D (va_A [] sz) []) (va_A [] sz)) 0 0 (va_A [] sz) := by
  refine Met.ofW (cc := cJ0_coder_7d493) (maxL := 1) (ret := (some .byte)) (by decide) rfl ?_
  intro p e s m args below meth c s₁ B hml hv
  obtain ⟨rfl, hsz, hP, hK, hD0, hNso⟩ := hv
  have hx := B.exec
  have hb := B.bytes
  have hr := B.returns
  have hts := atoms_spec (ws := v_s_J0_coder_7d493) B.pre
  have hown : s.vm.findClass RJ0 = some m.cls := findClass_of_methodNamed B.named
  have hlocks := B.notSynchronized
  subst hsz
  have hD := hD0.self (sz := s.heap.size)
  generalize hAe : va_A [] s.heap.size = A at hD hNso ⊢
  have hA : ∀ q : Nat, s.heap.size ≤ q → A q := fun q h => by rw [← hAe]; exact Or.inr h
  have hP : va_P (dC, dI) vwCl [] s.heap := hP
  have hl := lv_entry ([.ref ks]) (n := 1) (Nat.le_of_ble_eq_true rfl)
  rw [lg_entry_eq]
  generalize (lg_sl ([.ref ks]) ++ List.replicate (1 - (lg_sl ([.ref ks])).length) Slot.unset).toArray = ls at hl ⊢
  have hl : lv_has ls 1 [(0, .ref ks)] := hl
  refine W_gen (A := A) hP (fun H locs hP hS => ?_)
  refine va_gets (v := .int 1) hx hb hNso.2.2.2.2 hS hown (hts (.fieldLink RJ0 38 "java/lang/String" "COMPACT_STRINGS" "Z") (List.mem_of_getElem? (i := 1) rfl)) (fun _ h => h) dJ0_coder_7d493_0 ?_
  refine lv_if_eq (tgt := 13) hx hb dJ0_coder_7d493_3 (by decide) (fun cz => absurd cz (by decide)) (fun _ => ?_)
  refine lv_aload_n hx hb dJ0_coder_7d493_6 rfl (lv_at hl 0 rfl) ?_
  refine vk_getf (v := .int 0) hx hb hNso.2.1 hS hown (hts (.fieldLink RJ0 15 "java/lang/String" "coder" "B") (List.mem_of_getElem? (i := 2) rfl)) (fun _ h => h) dJ0_coder_7d493_7 ?_
  refine lv_goto (tgt := 14) hx hb dJ0_coder_7d493_10 (by decide) ?_
  have hP9 := hP.sub (ws' := []) [] rfl
  have hD9 := hD.sub (ws' := []) [] (by decide) rfl
  exact W.zret (v := 0) hx hb hr (rfl) (fun t ht hW => ⟨⟨0, (), rfl, rfl, ⟨by rw [ht]; exact hP9, hD9⟩⟩, hS.F ht⟩) hS.2.2 dJ0_coder_7d493_14
def v_s_J0_length_8abf5 : List Cond := Cond.code yJ0_length_8abf5 cJ0_length_8abf5 1 (some .int) :: ([Cond.fieldLink RJ0 9 "java/lang/String" "value" "[B", Cond.methodLink RJ0 335 yJ0_coder_7d493, Cond.instanceMethod yJ0_coder_7d493, Cond.selects RJ0 yJ0_coder_7d493 yJ0_coder_7d493, Cond.initialized RJ0] ++ (v_s_J0_coder_7d493 ++ ([])))
theorem k_s_J0_length_8abf5 : GoodIn lw_tbl v_s_J0_length_8abf5 := gd_c (List.mem_of_getElem? (i := 259) (by decide +kernel)) rfl (goodIn_app (gd_c (List.mem_of_getElem? (i := 1870) (by decide +kernel)) rfl (gd_c (List.mem_of_getElem? (i := 260) (by decide +kernel)) rfl (gd_c (List.mem_of_getElem? (i := 261) (by decide +kernel)) rfl (gd_c (List.mem_of_getElem? (i := 262) (by decide +kernel)) rfl (gd_c (List.mem_of_getElem? (i := 135) (by decide +kernel)) rfl (gd_nil)))))) (goodIn_app k_s_J0_coder_7d493 (gd_nil)))
set_option maxHeartbeats 2000000 in
set_option maxRecDepth 100000 in
theorem c_s_J0_length_8abf5 (l : Launch) (dC : Nat → ClassId) (dI : Nat → Nat → Nat) (cB cI cJ cZ cP : ClassId) (ks vs : Nat) (fb : Nat → Int32) (sz : Nat) : Met l yJ0_length_8abf5 v_s_J0_length_8abf5 ({ frames := 1, cells := 0, slots := 0, locals := 20 }) (va_Pc [.ref ks] (fun U => U.heap.size = sz ∧ va_P (dC, dI) vwCl [] U.heap ∧ va_K (dC, dI) vwCl (ty5 cB cI cJ cZ cP) U ∧ va_D (fun _ => True) [] ∧ SO2 ks vs fb (va_A [] sz) U U.heap)) (va_Qi (fun (r : Int32) (u9 : Unit) => r = 10) (fun u9 t => va_P (dC, dI) vwCl [] t.heap ∧ va_D (va_A [] sz) []) (va_A [] sz)) 0 0 (va_A [] sz) := by
  refine Met.ofW (cc := cJ0_length_8abf5) (maxL := 1) (ret := (some .int)) (by decide) rfl ?_
  intro p e s m args below meth c s₁ B hml hv
  obtain ⟨rfl, hsz, hP, hK, hD0, hNso⟩ := hv
  have hx := B.exec
  have hb := B.bytes
  have hr := B.returns
  have hts := atoms_spec (ws := v_s_J0_length_8abf5) B.pre
  have hown : s.vm.findClass RJ0 = some m.cls := findClass_of_methodNamed B.named
  have hlocks := B.notSynchronized
  subst hsz
  have hD := hD0.self (sz := s.heap.size)
  generalize hAe : va_A [] s.heap.size = A at hD hNso ⊢
  have hA : ∀ q : Nat, s.heap.size ≤ q → A q := fun q h => by rw [← hAe]; exact Or.inr h
  have hP : va_P (dC, dI) vwCl [] s.heap := hP
  have hl := lv_entry ([.ref ks]) (n := 1) (Nat.le_of_ble_eq_true rfl)
  rw [lg_entry_eq]
  generalize (lg_sl ([.ref ks]) ++ List.replicate (1 - (lg_sl ([.ref ks])).length) Slot.unset).toArray = ls at hl ⊢
  have hl : lv_has ls 1 [(0, .ref ks)] := hl
  refine W_gen (A := A) hP (fun H locs hP hS => ?_)
  refine lv_aload_n hx hb dJ0_length_8abf5_0 rfl (lv_at hl 0 rfl) ?_
  refine vk_getf (v := .ref vs) hx hb hNso.2.2.1 hS hown (hts (.fieldLink RJ0 9 "java/lang/String" "value" "[B") (List.mem_of_getElem? (i := 1) rfl)) (fun _ h => h) dJ0_length_8abf5_1 ?_
  refine va_tlen (v := 10) hx hb hNso.2.2.2.1 hS (by decide) dJ0_length_8abf5_4 ?_
  refine lv_aload_n hx hb dJ0_length_8abf5_5 rfl (lv_at hl 0 rfl) ?_
  have hPc := hP.sub (ws' := []) [] rfl
  have hDc := hD.sub (ws' := []) [] (by decide) rfl
  have hFc := va_free (wc := []) hD hS hA [] rfl
  refine va_calli (va_runV (As := []) (rest := [.int 10]) ⟨hx, hb, hml, hown, hts⟩ (c_s_J0_coder_7d493 l dC dI cB cI cJ cZ cP ks vs fb  H.size) (cwV 0 hts (gd_V (List.mem_of_getElem? (i := 2) rfl) (List.mem_of_getElem? (i := 3) rfl) (List.mem_of_getElem? (i := 4) rfl) (List.mem_of_getElem? (i := 5) rfl) (gd_mono k_s_J0_coder_7d493 (fun _ h => List.mem_cons_of_mem _ (List.mem_append_right _ (List.mem_append_left _ h))))) rfl rfl rfl (by decide +kernel) ⟨Nat.le_of_ble_eq_true rfl, Nat.le_of_ble_eq_true rfl⟩) ⟨fun a U g mk q => by obtain ⟨q0, q1, qP, qK, qD, qN0⟩ := q; exact ⟨q0, q1, qP, va_K.moved (u := U) (U := U.calling g mk a) (Vm.Alike.refl U.vm) qK, qD, SO2_moved (u := U) (U := U.calling g mk a) (Vm.Alike.refl U.vm) qN0⟩, SO2_recv hNso hS, fun U hU hW => ⟨rfl, by rw [hU], by rw [hU]; exact hPc, va_K.moved hW.alike hK, hDc.weaken (fun _ _ _ _ => trivial), by rw [hU]; exact SO2_moved hW.alike (SO2_narrow (SO2_kept hNso hS.2.1) hFc)⟩⟩ rfl rfl hl.1 rfl (lv_room (Nat.le_of_ble_eq_true rfl)) dJ0_length_8abf5_6 ⟨Nat.le_of_ble_eq_true rfl, Nat.le_of_ble_eq_true rfl⟩) hS (fun q _ h => hFc q h) hFc (fun r_1 u t H1 locs ht hvm hw hB hz1 hk1 hS => ?_)
  obtain ⟨hP1, hD1⟩ := hB
  rw [ht] at hP1
  obtain ⟨hP, hD⟩ := va_join (wr := []) (w1 := []) hP hD [] [] rfl rfl (by decide) (by decide) hk1 hFc hP1 hD1
  generalize H1 = H at hP hS ⊢
  replace hP : va_P (dC, dI) vwCl [] H := hP
  replace hD : va_D A [] := hD
  refine tp_v (.int 0) (congrArg Value.int hw) ?_
  refine lv_ishr hx hb dJ0_length_8abf5_9 ?_
  refine tp_v (.int 10) (congrArg Value.int (by decide)) ?_
  have hP9 := hP.sub (ws' := []) [] rfl
  have hD9 := hD.sub (ws' := []) [] (by decide) rfl
  exact W.iret (v := 10) hx hb hr (fun t ht hW => ⟨⟨10, (), rfl, rfl, ⟨by rw [ht]; exact hP9, hD9⟩⟩, hS.F ht⟩) hS.2.2 dJ0_length_8abf5_10
def v_s_J1_canEncode_9a6ad : List Cond := Cond.code yJ1_canEncode_9a6ad cJ1_canEncode_9a6ad 1 (some .boolean) :: ([] ++ ([]))
theorem k_s_J1_canEncode_9a6ad : GoodIn lw_tbl v_s_J1_canEncode_9a6ad := gd_c (List.mem_of_getElem? (i := 636) (by decide +kernel)) rfl (goodIn_app (gd_nil) (gd_nil))
set_option maxHeartbeats 2000000 in
set_option maxRecDepth 100000 in
theorem c_s_J1_canEncode_9a6ad (l : Launch) (dC : Nat → ClassId) (dI : Nat → Nat → Nat) (cB cI cJ cZ cP : ClassId) (p0 : Int32) (sz : Nat) : Met l yJ1_canEncode_9a6ad v_s_J1_canEncode_9a6ad ({ frames := 0, cells := 0, slots := 0, locals := 0 }) (va_Pc [.int p0] (fun U => U.heap.size = sz ∧ va_P (dC, dI) vwCl [] U.heap ∧ va_K (dC, dI) vwCl (ty5 cB cI cJ cZ cP) U ∧ va_D (fun _ => True) [])) (va_Qi (fun (r : Int32) (u9 : Unit) => rg (0) (1) r) (fun u9 t => va_P (dC, dI) vwCl [] t.heap ∧ va_D (va_A [] sz) []) (va_A [] sz)) 0 0 (va_A [] sz) := by
  refine Met.ofW (cc := cJ1_canEncode_9a6ad) (maxL := 1) (ret := (some .boolean)) (by decide) rfl ?_
  intro p e s m args below meth c s₁ B hml hv
  obtain ⟨rfl, hsz, hP, hK, hD0⟩ := hv
  have hx := B.exec
  have hb := B.bytes
  have hr := B.returns
  have hts := atoms_spec (ws := v_s_J1_canEncode_9a6ad) B.pre
  have hown : s.vm.findClass RJ1 = some m.cls := findClass_of_methodNamed B.named
  have hlocks := B.notSynchronized
  subst hsz
  have hD := hD0.self (sz := s.heap.size)
  generalize hAe : va_A [] s.heap.size = A at hD ⊢
  have hA : ∀ q : Nat, s.heap.size ≤ q → A q := fun q h => by rw [← hAe]; exact Or.inr h
  have hP : va_P (dC, dI) vwCl [] s.heap := hP
  have hl := lv_entry ([.int p0]) (n := 1) (Nat.le_of_ble_eq_true rfl)
  rw [lg_entry_eq]
  generalize (lg_sl ([.int p0]) ++ List.replicate (1 - (lg_sl ([.int p0])).length) Slot.unset).toArray = ls at hl ⊢
  have hl : lv_has ls 1 [(0, .int p0)] := hl
  refine W_gen (A := A) hP (fun H locs hP hS => ?_)
  refine lv_iload_n hx hb dJ1_canEncode_9a6ad_0 rfl (lv_at hl 0 rfl) ?_
  refine lv_if_lt (tgt := 15) hx hb dJ1_canEncode_9a6ad_1 (by decide) (fun c_1 => ?_) (fun c_1 => ?_)
  · skip
    have h_2 : rg (-2147483648) (-1) p0 := by have ha := (rg_any p0); have hb_ := (rg_k (x := 0) (c := 0) (by decide)); simp only [rg, fa_lt, fa_le, fa_eq, (by decide : (0 : Int32).toInt = 0)] at ha hb_ c_1; simp only [rg]; omega
    refine lv_iconst (v := 0) hx hb dJ1_canEncode_9a6ad_15 (by decide) ?_
    have hP9 := hP.sub (ws' := []) [] rfl
    have hD9 := hD.sub (ws' := []) [] (by decide) rfl
    exact W.zret (v := 0) hx hb hr (rfl) (fun t ht hW => ⟨⟨0, (), rfl, (rg_mono (rg_k (x := 0) (c := 0) (by decide)) (by decide) (by decide)), ⟨by rw [ht]; exact hP9, hD9⟩⟩, hS.F ht⟩) hS.2.2 dJ1_canEncode_9a6ad_16
  · skip
    have h_3 : rg (0) (2147483647) p0 := by have ha := (rg_any p0); have hb_ := (rg_k (x := 0) (c := 0) (by decide)); simp only [rg, fa_lt, fa_le, fa_eq, (by decide : (0 : Int32).toInt = 0)] at ha hb_ c_1; simp only [rg]; omega
    refine lv_iload_n hx hb dJ1_canEncode_9a6ad_4 rfl (lv_at hl 0 rfl) ?_
    refine lv_sipush (v := 255) hx hb dJ1_canEncode_9a6ad_5 (by decide) ?_
    refine lv_icmp_gt (tgt := 15) hx hb dJ1_canEncode_9a6ad_8 (by decide) (fun c_4 => ?_) (fun c_4 => ?_)
    · skip
      have h_5 : rg (256) (2147483647) p0 := by have ha := h_3; have hb_ := (rg_k (x := 255) (c := 255) (by decide)); simp only [rg, fa_lt, fa_le, fa_eq, (by decide : (255 : Int32).toInt = 255)] at ha hb_ c_4; simp only [rg]; omega
      refine lv_iconst (v := 0) hx hb dJ1_canEncode_9a6ad_15 (by decide) ?_
      have hP9 := hP.sub (ws' := []) [] rfl
      have hD9 := hD.sub (ws' := []) [] (by decide) rfl
      exact W.zret (v := 0) hx hb hr (rfl) (fun t ht hW => ⟨⟨0, (), rfl, (rg_mono (rg_k (x := 0) (c := 0) (by decide)) (by decide) (by decide)), ⟨by rw [ht]; exact hP9, hD9⟩⟩, hS.F ht⟩) hS.2.2 dJ1_canEncode_9a6ad_16
    · skip
      have h_6 : rg (0) (255) p0 := by have ha := h_3; have hb_ := (rg_k (x := 255) (c := 255) (by decide)); simp only [rg, fa_lt, fa_le, fa_eq, (by decide : (255 : Int32).toInt = 255)] at ha hb_ c_4; simp only [rg]; omega
      refine lv_iconst (v := 1) hx hb dJ1_canEncode_9a6ad_11 (by decide) ?_
      refine lv_goto (tgt := 16) hx hb dJ1_canEncode_9a6ad_12 (by decide) ?_
      have hP9 := hP.sub (ws' := []) [] rfl
      have hD9 := hD.sub (ws' := []) [] (by decide) rfl
      exact W.zret (v := 1) hx hb hr (rfl) (fun t ht hW => ⟨⟨1, (), rfl, (rg_mono (rg_k (x := 1) (c := 1) (by decide)) (by decide) (by decide)), ⟨by rw [ht]; exact hP9, hD9⟩⟩, hS.F ht⟩) hS.2.2 dJ1_canEncode_9a6ad_16
def v_s_J1_indexOfChar_4cfef_c : List Cond := Cond.code yJ1_indexOfChar_4cfef cJ1_indexOfChar_4cfef 6 (some .int) :: ([] ++ ([]))
theorem k_s_J1_indexOfChar_4cfef_c : GoodIn lw_tbl v_s_J1_indexOfChar_4cfef_c := gd_c (List.mem_of_getElem? (i := 643) (by decide +kernel)) rfl (goodIn_app (gd_nil) (gd_nil))
set_option maxHeartbeats 2000000 in
set_option maxRecDepth 100000 in
theorem c_s_J1_indexOfChar_4cfef_c (l : Launch) (dC : Nat → ClassId) (dI : Nat → Nat → Nat) (cB cI cJ cZ cP : ClassId) (ks vs : Nat) (fb : Nat → Int32) (p1 : Int32) (sz : Nat) : Met l yJ1_indexOfChar_4cfef v_s_J1_indexOfChar_4cfef_c ({ frames := 0, cells := 0, slots := 0, locals := 0 }) (va_Pc [.ref vs, .int p1, .int 0, .int 10] (fun U => U.heap.size = sz ∧ va_P (dC, dI) vwCl [] U.heap ∧ va_K (dC, dI) vwCl (ty5 cB cI cJ cZ cP) U ∧ va_D (fun _ => True) [] ∧ SO2 ks vs fb (va_A [] sz) U U.heap)) (va_Qi (fun (r : Int32) (u9 : Unit) => rg (-1) (9) r) (fun u9 t => va_P (dC, dI) vwCl [] t.heap ∧ va_D (va_A [] sz) []) (va_A [] sz)) 0 0 (va_A [] sz) := by
  refine Met.ofW (cc := cJ1_indexOfChar_4cfef) (maxL := 6) (ret := (some .int)) (by decide) rfl ?_
  intro p e s m args below meth c s₁ B hml hv
  obtain ⟨rfl, hsz, hP, hK, hD0, hNso⟩ := hv
  have hx := B.exec
  have hb := B.bytes
  have hr := B.returns
  have hts := atoms_spec (ws := v_s_J1_indexOfChar_4cfef_c) B.pre
  have hown : s.vm.findClass RJ1 = some m.cls := findClass_of_methodNamed B.named
  have hlocks := B.notSynchronized
  subst hsz
  have hD := hD0.self (sz := s.heap.size)
  generalize hAe : va_A [] s.heap.size = A at hD hNso ⊢
  have hA : ∀ q : Nat, s.heap.size ≤ q → A q := fun q h => by rw [← hAe]; exact Or.inr h
  have hP : va_P (dC, dI) vwCl [] s.heap := hP
  have hl := lv_entry ([.ref vs, .int p1, .int 0, .int 10]) (n := 6) (Nat.le_of_ble_eq_true rfl)
  rw [lg_entry_eq]
  generalize (lg_sl ([.ref vs, .int p1, .int 0, .int 10]) ++ List.replicate (6 - (lg_sl ([.ref vs, .int p1, .int 0, .int 10])).length) Slot.unset).toArray = ls at hl ⊢
  have hl : lv_has ls 6 [(0, .ref vs), (1, .int p1), (2, .int 0), (3, .int 10)] := hl
  refine W_gen (A := A) hP (fun H locs hP hS => ?_)
  refine lv_iload_n hx hb dJ1_indexOfChar_4cfef_0 rfl (lv_at hl 1 rfl) ?_
  refine lv_i2b hx hb dJ1_indexOfChar_4cfef_1 rfl ?_
  refine lv_topi (fun x_1 ex_1 => ?_)
  clear ex_1
  refine lv_istore (lv' := [(4, .int x_1), (0, .ref vs), (1, .int p1), (2, .int 0), (3, .int 10)]) hx hb dJ1_indexOfChar_4cfef_2 hl (by decide) rfl (fun ls hl => ?_)
  refine lv_iload_n hx hb dJ1_indexOfChar_4cfef_4 rfl (lv_at hl 3 rfl) ?_
  refine lv_istore (lv' := [(5, .int 0), (4, .int x_1), (0, .ref vs), (1, .int p1), (2, .int 0), (3, .int 10)]) hx hb dJ1_indexOfChar_4cfef_5 hl (by decide) rfl (fun ls hl => ?_)
  refine W_loopM (σ := Int32) (fun u H locs ls => va_P (dC, dI) vwCl [] H ∧ va_D A [] ∧ va_S A s.heap H locs ∧ lv_has ls 6 [(5, .int u), (4, .int x_1), (0, .ref vs), (1, .int p1), (2, .int 0), (3, .int 10)] ∧ rg (0) (10) u) (fun u => ((10) - u.toInt).toNat) 7 [] ?_ (0) H locs ls ⟨hP, hD, hS, hl, (rg_mono (rg_k (x := 0) (c := 0) (by decide)) (by decide) (by decide))⟩
  rintro x_49 H locs ls ⟨hP, hD, hS, hl, hx_49⟩ ih_56
  replace hP : va_P (dC, dI) vwCl [] H := hP
  replace hD : va_D A [] := hD
  replace hl : lv_has ls 6 [(5, .int x_49), (4, .int x_1), (0, .ref vs), (1, .int p1), (2, .int 0), (3, .int 10)] := hl
  replace hx_49 : rg (0) (10) x_49 := hx_49
  refine lv_iload hx hb dJ1_indexOfChar_4cfef_7 (lv_at hl 0 rfl) ?_
  refine lv_iload_n hx hb dJ1_indexOfChar_4cfef_9 rfl (lv_at hl 5 rfl) ?_
  refine lv_icmp_ge (tgt := 31) hx hb dJ1_indexOfChar_4cfef_10 (by decide) (fun c_57 => ?_) (fun c_57 => ?_)
  · skip
    have h_58 : rg (10) (10) x_49 := by have ha := hx_49; have hb_ := (rg_k (x := 10) (c := 10) (by decide)); simp only [rg, fa_lt, fa_le, fa_eq, (by decide : (10 : Int32).toInt = 10)] at ha hb_ c_57; simp only [rg]; omega
    refine lv_iconst (v := (-1)) hx hb dJ1_indexOfChar_4cfef_31 (by decide) ?_
    have hP9 := hP.sub (ws' := []) [] rfl
    have hD9 := hD.sub (ws' := []) [] (by decide) rfl
    exact W.iret (v := (-1)) hx hb hr (fun t ht hW => ⟨⟨(-1), (), rfl, (rg_mono (rg_k (x := (-1)) (c := -1) (by decide)) (by decide) (by decide)), ⟨by rw [ht]; exact hP9, hD9⟩⟩, hS.F ht⟩) hS.2.2 dJ1_indexOfChar_4cfef_32
  · skip
    have h_59 : rg (0) (9) x_49 := by have ha := hx_49; have hb_ := (rg_k (x := 10) (c := 10) (by decide)); simp only [rg, fa_lt, fa_le, fa_eq, (by decide : (10 : Int32).toInt = 10)] at ha hb_ c_57; simp only [rg]; omega
    refine lv_aload_n hx hb dJ1_indexOfChar_4cfef_13 rfl (lv_at hl 2 rfl) ?_
    refine lv_iload hx hb dJ1_indexOfChar_4cfef_14 (lv_at hl 0 rfl) ?_
    refine va_tb (v := .int (fb (x_49 : Int32).toNatClampNeg)) hx hb hNso.2.2.2.1 hS (rg_in (n := 10) (rg_mono h_59 (by decide) (by decide))) rfl dJ1_indexOfChar_4cfef_16 ?_
    refine lv_topi (fun x_60 ex_60 => ?_)
    clear ex_60
    refine lv_iload hx hb dJ1_indexOfChar_4cfef_17 (lv_at hl 1 rfl) ?_
    refine lv_icmp_ne (tgt := 25) hx hb dJ1_indexOfChar_4cfef_19 (by decide) (fun c_61 => ?_) (fun c_61 => ?_)
    · skip
      obtain ⟨x_62, ex_62⟩ : ∃ y : Int32, y = x_49 + Int32.ofInt (1) := ⟨_, rfl⟩
      have hx_62 : rg (1) (10) x_62 := by rw [ex_62]; exact rg_mono (rg_add h_59 (rg_k (x := Int32.ofInt (1)) (c := 1) (by decide)) (by decide) (by decide)) (by decide) (by decide)
      have qx_62 : x_62.toInt = x_49.toInt + (1) := by rw [ex_62]; exact rg_addE h_59 (rg_k (x := Int32.ofInt (1)) (c := 1) (by decide)) (by decide) (by decide) (by decide)
      refine lv_iinc (v := x_62) (lv' := [(5, .int x_62), (4, .int x_1), (0, .ref vs), (1, .int p1), (2, .int 0), (3, .int 10)]) hx hb dJ1_indexOfChar_4cfef_25 hl (k := 0) rfl (ex_62.symm) (by decide) rfl (fun ls hl => ?_)
      clear ex_62
      refine lv_goto (tgt := 7) hx hb dJ1_indexOfChar_4cfef_28 (by decide) ?_
      exact ih_56 (x_62) H locs ls ⟨hP.sub (ws' := []) [] rfl, hD.sub (ws' := []) [] (by decide) rfl, hS, lv_sub hl [0, 1, 2, 3, 4, 5] rfl, (rg_mono hx_62 (by decide) (by decide))⟩ (by show ((10) - x_62.toInt).toNat < ((10) - x_49.toInt).toNat; have ha := h_59; simp only [rg] at ha; omega)
    · skip
      refine lv_iload hx hb dJ1_indexOfChar_4cfef_22 (lv_at hl 0 rfl) ?_
      have hP9 := hP.sub (ws' := []) [] rfl
      have hD9 := hD.sub (ws' := []) [] (by decide) rfl
      exact W.iret (v := x_49) hx hb hr (fun t ht hW => ⟨⟨x_49, (), rfl, (rg_mono h_59 (by decide) (by decide)), ⟨by rw [ht]; exact hP9, hD9⟩⟩, hS.F ht⟩) hS.2.2 dJ1_indexOfChar_4cfef_24
def v_s_J1_indexOf_4cfef_c : List Cond := Cond.code yJ1_indexOf_4cfef cJ1_indexOf_4cfef 4 (some .int) :: ([Cond.methodLink RJ1 88 yJ1_canEncode_9a6ad, Cond.static yJ1_canEncode_9a6ad, Cond.initialized RJ1, Cond.methodLink RJ1 92 Lib.Math.max.name, Cond.static Lib.Math.max.name, Cond.initialized RJ9, Cond.code Lib.Math.max.name Lib.Math.max.code 2 (some .int), Cond.methodLink RJ1 38 Lib.Math.min.name, Cond.static Lib.Math.min.name, Cond.code Lib.Math.min.name Lib.Math.min.code 2 (some .int), Cond.methodLink RJ1 95 yJ1_indexOfChar_4cfef, Cond.static yJ1_indexOfChar_4cfef] ++ (v_s_J1_canEncode_9a6ad ++ (v_s_J1_indexOfChar_4cfef_c ++ ([]))))
theorem k_s_J1_indexOf_4cfef_c : GoodIn lw_tbl v_s_J1_indexOf_4cfef_c := gd_c (List.mem_of_getElem? (i := 633) (by decide +kernel)) rfl (goodIn_app (gd_c (List.mem_of_getElem? (i := 634) (by decide +kernel)) rfl (gd_c (List.mem_of_getElem? (i := 635) (by decide +kernel)) rfl (gd_c (List.mem_of_getElem? (i := 136) (by decide +kernel)) rfl (gd_c (List.mem_of_getElem? (i := 637) (by decide +kernel)) rfl (gd_c (List.mem_of_getElem? (i := 638) (by decide +kernel)) rfl (gd_c (List.mem_of_getElem? (i := 145) (by decide +kernel)) rfl (gd_c (List.mem_of_getElem? (i := 639) (by decide +kernel)) rfl (gd_c (List.mem_of_getElem? (i := 640) (by decide +kernel)) rfl (gd_c (List.mem_of_getElem? (i := 589) (by decide +kernel)) rfl (gd_c (List.mem_of_getElem? (i := 590) (by decide +kernel)) rfl (gd_c (List.mem_of_getElem? (i := 641) (by decide +kernel)) rfl (gd_c (List.mem_of_getElem? (i := 642) (by decide +kernel)) rfl (gd_nil))))))))))))) (goodIn_app k_s_J1_canEncode_9a6ad (goodIn_app k_s_J1_indexOfChar_4cfef_c (gd_nil))))
set_option maxHeartbeats 2000000 in
set_option maxRecDepth 100000 in
theorem c_s_J1_indexOf_4cfef_c (l : Launch) (dC : Nat → ClassId) (dI : Nat → Nat → Nat) (cB cI cJ cZ cP : ClassId) (ks vs : Nat) (fb : Nat → Int32) (p1 : Int32) (sz : Nat) : Met l yJ1_indexOf_4cfef v_s_J1_indexOf_4cfef_c ({ frames := 1, cells := 0, slots := 0, locals := 30 }) (va_Pc [.ref vs, .int p1, .int 0, .int 10] (fun U => U.heap.size = sz ∧ va_P (dC, dI) vwCl [] U.heap ∧ va_K (dC, dI) vwCl (ty5 cB cI cJ cZ cP) U ∧ va_D (fun _ => True) [] ∧ SO2 ks vs fb (va_A [] sz) U U.heap)) (va_Qi (fun (r : Int32) (u9 : Unit) => rg (-1) (9) r) (fun u9 t => va_P (dC, dI) vwCl [] t.heap ∧ va_D (va_A [] sz) []) (va_A [] sz)) 0 0 (va_A [] sz) := by
  refine Met.ofW (cc := cJ1_indexOf_4cfef) (maxL := 4) (ret := (some .int)) (by decide) rfl ?_
  intro p e s m args below meth c s₁ B hml hv
  obtain ⟨rfl, hsz, hP, hK, hD0, hNso⟩ := hv
  have hx := B.exec
  have hb := B.bytes
  have hr := B.returns
  have hts := atoms_spec (ws := v_s_J1_indexOf_4cfef_c) B.pre
  have hown : s.vm.findClass RJ1 = some m.cls := findClass_of_methodNamed B.named
  have hlocks := B.notSynchronized
  subst hsz
  have hD := hD0.self (sz := s.heap.size)
  generalize hAe : va_A [] s.heap.size = A at hD hNso ⊢
  have hA : ∀ q : Nat, s.heap.size ≤ q → A q := fun q h => by rw [← hAe]; exact Or.inr h
  have hP : va_P (dC, dI) vwCl [] s.heap := hP
  have hl := lv_entry ([.ref vs, .int p1, .int 0, .int 10]) (n := 4) (Nat.le_of_ble_eq_true rfl)
  rw [lg_entry_eq]
  generalize (lg_sl ([.ref vs, .int p1, .int 0, .int 10]) ++ List.replicate (4 - (lg_sl ([.ref vs, .int p1, .int 0, .int 10])).length) Slot.unset).toArray = ls at hl ⊢
  have hl : lv_has ls 4 [(0, .ref vs), (1, .int p1), (2, .int 0), (3, .int 10)] := hl
  refine W_gen (A := A) hP (fun H locs hP hS => ?_)
  refine lv_iload_n hx hb dJ1_indexOf_4cfef_0 rfl (lv_at hl 1 rfl) ?_
  have hPc := hP.sub (ws' := []) [] rfl
  have hDc := hD.sub (ws' := []) [] (by decide) rfl
  have hFc := va_free (wc := []) hD hS hA [] rfl
  refine va_calli (va_runS (As := [.int p1]) (rest := []) ⟨hx, hb, hml, hown, hts⟩ (c_s_J1_canEncode_9a6ad l dC dI cB cI cJ cZ cP p1 H.size) (va_cwS 1 hts (gd_S (List.mem_of_getElem? (i := 1) rfl) (List.mem_of_getElem? (i := 2) rfl) (List.mem_of_getElem? (i := 3) rfl) (gd_mono k_s_J1_canEncode_9a6ad (fun _ h => List.mem_cons_of_mem _ (List.mem_append_right _ (List.mem_append_left _ h))))) rfl rfl rfl (by decide +kernel) ⟨Nat.le_of_ble_eq_true rfl, Nat.le_of_ble_eq_true rfl⟩) ⟨fun a U g mk q => by obtain ⟨q0, q1, qP, qK, qD⟩ := q; exact ⟨q0, q1, qP, va_K.moved (u := U) (U := U.calling g mk a) (Vm.Alike.refl U.vm) qK, qD⟩, fun U hU hW => ⟨rfl, by rw [hU], by rw [hU]; exact hPc, va_K.moved hW.alike hK, hDc.weaken (fun _ _ _ _ => trivial)⟩⟩ rfl rfl hl.1 rfl (lv_room (Nat.le_of_ble_eq_true rfl)) dJ1_indexOf_4cfef_1 ⟨Nat.le_of_ble_eq_true rfl, Nat.le_of_ble_eq_true rfl⟩) hS (fun q _ h => hFc q h) hFc (fun r_1 u t H1 locs ht hvm hw hB hz1 hk1 hS => ?_)
  obtain ⟨hP1, hD1⟩ := hB
  rw [ht] at hP1
  obtain ⟨hP, hD⟩ := va_join (wr := []) (w1 := []) hP hD [] [] rfl rfl (by decide) (by decide) hk1 hFc hP1 hD1
  generalize H1 = H at hP hS ⊢
  replace hP : va_P (dC, dI) vwCl [] H := hP
  replace hD : va_D A [] := hD
  have hr_1 : rg (0) (1) r_1 := hw
  refine lv_if_ne (tgt := 9) hx hb dJ1_indexOf_4cfef_4 (by decide) (fun c_2 => ?_) (fun c_2 => ?_)
  · skip
    have h_3 : rg (1) (1) r_1 := by have ha := hr_1; have hb_ := (rg_k (x := 0) (c := 0) (by decide)); simp only [rg, fa_lt, fa_le, fa_eq, (by decide : (0 : Int32).toInt = 0)] at ha hb_ c_2; simp only [rg]; omega
    refine lv_iload_n hx hb dJ1_indexOf_4cfef_9 rfl (lv_at hl 2 rfl) ?_
    refine lv_iconst (v := 0) hx hb dJ1_indexOf_4cfef_10 (by decide) ?_
    refine va_mmax hx hb (by rw [hml]; exact hl.1.symm) hown (hts (.methodLink RJ1 92 Lib.Math.max.name) (List.mem_of_getElem? (i := 4) rfl)) (hts (.static Lib.Math.max.name) (List.mem_of_getElem? (i := 5) rfl)) (hts (.initialized RJ9) (List.mem_of_getElem? (i := 6) rfl)) (hts (.code Lib.Math.max.name Lib.Math.max.code 2 (some .int)) (List.mem_of_getElem? (i := 7) rfl)) (Nat.le_of_ble_eq_true rfl) (Nat.le_of_ble_eq_true rfl) (Nat.le_of_ble_eq_true rfl) (Nat.le_of_ble_eq_true rfl) dJ1_indexOf_4cfef_11 ?_
    refine tp_v (.int 0) (congrArg Value.int (by decide)) ?_
    refine lv_istore_n (lv' := [(2, .int 0), (0, .ref vs), (1, .int p1), (3, .int 10)]) hx hb dJ1_indexOf_4cfef_14 rfl hl (by decide) rfl (fun ls hl => ?_)
    refine lv_iload_n hx hb dJ1_indexOf_4cfef_15 rfl (lv_at hl 3 rfl) ?_
    refine lv_aload_n hx hb dJ1_indexOf_4cfef_16 rfl (lv_at hl 1 rfl) ?_
    refine va_tlen (v := 10) hx hb hNso.2.2.2.1 hS (by decide) dJ1_indexOf_4cfef_17 ?_
    refine va_mmin hx hb (by rw [hml]; exact hl.1.symm) hown (hts (.methodLink RJ1 38 Lib.Math.min.name) (List.mem_of_getElem? (i := 8) rfl)) (hts (.static Lib.Math.min.name) (List.mem_of_getElem? (i := 9) rfl)) (hts (.initialized RJ9) (List.mem_of_getElem? (i := 6) rfl)) (hts (.code Lib.Math.min.name Lib.Math.min.code 2 (some .int)) (List.mem_of_getElem? (i := 10) rfl)) (Nat.le_of_ble_eq_true rfl) (Nat.le_of_ble_eq_true rfl) (Nat.le_of_ble_eq_true rfl) (Nat.le_of_ble_eq_true rfl) dJ1_indexOf_4cfef_18 ?_
    refine tp_v (.int 10) (congrArg Value.int (by decide)) ?_
    refine lv_istore_n (lv' := [(3, .int 10), (2, .int 0), (0, .ref vs), (1, .int p1)]) hx hb dJ1_indexOf_4cfef_21 rfl hl (by decide) rfl (fun ls hl => ?_)
    refine lv_iload_n hx hb dJ1_indexOf_4cfef_22 rfl (lv_at hl 1 rfl) ?_
    refine lv_iload_n hx hb dJ1_indexOf_4cfef_23 rfl (lv_at hl 0 rfl) ?_
    refine lv_icmp_lt (tgt := 29) hx hb dJ1_indexOf_4cfef_24 (by decide) (fun _ => ?_) (fun cz => absurd (by decide) cz)
    refine lv_aload_n hx hb dJ1_indexOf_4cfef_29 rfl (lv_at hl 2 rfl) ?_
    refine lv_iload_n hx hb dJ1_indexOf_4cfef_30 rfl (lv_at hl 3 rfl) ?_
    refine lv_iload_n hx hb dJ1_indexOf_4cfef_31 rfl (lv_at hl 1 rfl) ?_
    refine lv_iload_n hx hb dJ1_indexOf_4cfef_32 rfl (lv_at hl 0 rfl) ?_
    have hPc := hP.sub (ws' := []) [] rfl
    have hDc := hD.sub (ws' := []) [] (by decide) rfl
    have hFc := va_free (wc := []) hD hS hA [] rfl
    refine va_calli (va_runS (As := [.ref vs, .int p1, .int 0, .int 10]) (rest := []) ⟨hx, hb, hml, hown, hts⟩ (c_s_J1_indexOfChar_4cfef_c l dC dI cB cI cJ cZ cP ks vs fb p1 H.size) (va_cwS 4 hts (gd_S (List.mem_of_getElem? (i := 11) rfl) (List.mem_of_getElem? (i := 12) rfl) (List.mem_of_getElem? (i := 3) rfl) (gd_mono k_s_J1_indexOfChar_4cfef_c (fun _ h => List.mem_cons_of_mem _ (List.mem_append_right _ (List.mem_append_right _ (List.mem_append_left _ h)))))) rfl rfl rfl (by decide +kernel) ⟨Nat.le_of_ble_eq_true rfl, Nat.le_of_ble_eq_true rfl⟩) ⟨fun a U g mk q => by obtain ⟨q0, q1, qP, qK, qD, qN0⟩ := q; exact ⟨q0, q1, qP, va_K.moved (u := U) (U := U.calling g mk a) (Vm.Alike.refl U.vm) qK, qD, SO2_moved (u := U) (U := U.calling g mk a) (Vm.Alike.refl U.vm) qN0⟩, fun U hU hW => ⟨rfl, by rw [hU], by rw [hU]; exact hPc, va_K.moved hW.alike hK, hDc.weaken (fun _ _ _ _ => trivial), by rw [hU]; exact SO2_moved hW.alike (SO2_narrow (SO2_kept hNso hS.2.1) hFc)⟩⟩ rfl rfl hl.1 rfl (lv_room (Nat.le_of_ble_eq_true rfl)) dJ1_indexOf_4cfef_33 ⟨Nat.le_of_ble_eq_true rfl, Nat.le_of_ble_eq_true rfl⟩) hS (fun q _ h => hFc q h) hFc (fun r_4 u t H1 locs ht hvm hw hB hz1 hk1 hS => ?_)
    obtain ⟨hP1, hD1⟩ := hB
    rw [ht] at hP1
    obtain ⟨hP, hD⟩ := va_join (wr := []) (w1 := []) hP hD [] [] rfl rfl (by decide) (by decide) hk1 hFc hP1 hD1
    generalize H1 = H at hP hS ⊢
    replace hP : va_P (dC, dI) vwCl [] H := hP
    replace hD : va_D A [] := hD
    have hr_4 : rg (-1) (9) r_4 := hw
    have hP9 := hP.sub (ws' := []) [] rfl
    have hD9 := hD.sub (ws' := []) [] (by decide) rfl
    exact W.iret (v := r_4) hx hb hr (fun t ht hW => ⟨⟨r_4, (), rfl, (rg_mono hr_4 (by decide) (by decide)), ⟨by rw [ht]; exact hP9, hD9⟩⟩, hS.F ht⟩) hS.2.2 dJ1_indexOf_4cfef_36
  · skip
    have h_5 : rg (0) (0) r_1 := by have ha := hr_1; have hb_ := (rg_k (x := 0) (c := 0) (by decide)); simp only [rg, fa_lt, fa_le, fa_eq, (by decide : (0 : Int32).toInt = 0)] at ha hb_ c_2; simp only [rg]; omega
    refine lv_iconst (v := (-1)) hx hb dJ1_indexOf_4cfef_7 (by decide) ?_
    have hP9 := hP.sub (ws' := []) [] rfl
    have hD9 := hD.sub (ws' := []) [] (by decide) rfl
    exact W.iret (v := (-1)) hx hb hr (fun t ht hW => ⟨⟨(-1), (), rfl, (rg_mono (rg_k (x := (-1)) (c := -1) (by decide)) (by decide) (by decide)), ⟨by rw [ht]; exact hP9, hD9⟩⟩, hS.F ht⟩) hS.2.2 dJ1_indexOf_4cfef_8
def v_s_J0_indexOf_7cf53_c : List Cond := Cond.code yJ0_indexOf_7cf53 cJ0_indexOf_7cf53 3 (some .int) :: ([Cond.methodLink RJ0 492 yJ0_isLatin1_aae02, Cond.instanceMethod yJ0_isLatin1_aae02, Cond.selects RJ0 yJ0_isLatin1_aae02 yJ0_isLatin1_aae02, Cond.initialized RJ0, Cond.fieldLink RJ0 9 "java/lang/String" "value" "[B", Cond.methodLink RJ0 505 yJ0_length_8abf5, Cond.instanceMethod yJ0_length_8abf5, Cond.selects RJ0 yJ0_length_8abf5 yJ0_length_8abf5, Cond.methodLink RJ0 637 yJ1_indexOf_4cfef, Cond.static yJ1_indexOf_4cfef, Cond.initialized RJ1] ++ (v_s_J0_isLatin1_aae02 ++ (v_s_J0_length_8abf5 ++ (v_s_J1_indexOf_4cfef_c ++ ([])))))
theorem k_s_J0_indexOf_7cf53_c : GoodIn lw_tbl v_s_J0_indexOf_7cf53_c := gd_c (List.mem_of_getElem? (i := 629) (by decide +kernel)) rfl (goodIn_app (gd_c (List.mem_of_getElem? (i := 270) (by decide +kernel)) rfl (gd_c (List.mem_of_getElem? (i := 271) (by decide +kernel)) rfl (gd_c (List.mem_of_getElem? (i := 272) (by decide +kernel)) rfl (gd_c (List.mem_of_getElem? (i := 135) (by decide +kernel)) rfl (gd_c (List.mem_of_getElem? (i := 1870) (by decide +kernel)) rfl (gd_c (List.mem_of_getElem? (i := 630) (by decide +kernel)) rfl (gd_c (List.mem_of_getElem? (i := 257) (by decide +kernel)) rfl (gd_c (List.mem_of_getElem? (i := 258) (by decide +kernel)) rfl (gd_c (List.mem_of_getElem? (i := 631) (by decide +kernel)) rfl (gd_c (List.mem_of_getElem? (i := 632) (by decide +kernel)) rfl (gd_c (List.mem_of_getElem? (i := 136) (by decide +kernel)) rfl (gd_nil)))))))))))) (goodIn_app k_s_J0_isLatin1_aae02 (goodIn_app k_s_J0_length_8abf5 (goodIn_app k_s_J1_indexOf_4cfef_c (gd_nil)))))
set_option maxHeartbeats 2000000 in
set_option maxRecDepth 100000 in
theorem c_s_J0_indexOf_7cf53_c (l : Launch) (dC : Nat → ClassId) (dI : Nat → Nat → Nat) (cB cI cJ cZ cP : ClassId) (ks vs : Nat) (fb : Nat → Int32) (p0 : Int32) (sz : Nat) : Met l yJ0_indexOf_7cf53 v_s_J0_indexOf_7cf53_c ({ frames := 2, cells := 0, slots := 0, locals := 53 }) (va_Pc [.ref ks, .int p0, .int 0] (fun U => U.heap.size = sz ∧ va_P (dC, dI) vwCl [] U.heap ∧ va_K (dC, dI) vwCl (ty5 cB cI cJ cZ cP) U ∧ va_D (fun _ => True) [] ∧ SO2 ks vs fb (va_A [] sz) U U.heap)) (va_Qi (fun (r : Int32) (u9 : Unit) => rg (-1) (9) r) (fun u9 t => va_P (dC, dI) vwCl [] t.heap ∧ va_D (va_A [] sz) []) (va_A [] sz)) 0 0 (va_A [] sz) := by
  refine Met.ofW (cc := cJ0_indexOf_7cf53) (maxL := 3) (ret := (some .int)) (by decide) rfl ?_
  intro p e s m args below meth c s₁ B hml hv
  obtain ⟨rfl, hsz, hP, hK, hD0, hNso⟩ := hv
  have hx := B.exec
  have hb := B.bytes
  have hr := B.returns
  have hts := atoms_spec (ws := v_s_J0_indexOf_7cf53_c) B.pre
  have hown : s.vm.findClass RJ0 = some m.cls := findClass_of_methodNamed B.named
  have hlocks := B.notSynchronized
  subst hsz
  have hD := hD0.self (sz := s.heap.size)
  generalize hAe : va_A [] s.heap.size = A at hD hNso ⊢
  have hA : ∀ q : Nat, s.heap.size ≤ q → A q := fun q h => by rw [← hAe]; exact Or.inr h
  have hP : va_P (dC, dI) vwCl [] s.heap := hP
  have hl := lv_entry ([.ref ks, .int p0, .int 0]) (n := 3) (Nat.le_of_ble_eq_true rfl)
  rw [lg_entry_eq]
  generalize (lg_sl ([.ref ks, .int p0, .int 0]) ++ List.replicate (3 - (lg_sl ([.ref ks, .int p0, .int 0])).length) Slot.unset).toArray = ls at hl ⊢
  have hl : lv_has ls 3 [(0, .ref ks), (1, .int p0), (2, .int 0)] := hl
  refine W_gen (A := A) hP (fun H locs hP hS => ?_)
  refine lv_aload_n hx hb dJ0_indexOf_7cf53_0 rfl (lv_at hl 0 rfl) ?_
  have hPc := hP.sub (ws' := []) [] rfl
  have hDc := hD.sub (ws' := []) [] (by decide) rfl
  have hFc := va_free (wc := []) hD hS hA [] rfl
  refine va_calli (va_runV (As := []) (rest := []) ⟨hx, hb, hml, hown, hts⟩ (c_s_J0_isLatin1_aae02 l dC dI cB cI cJ cZ cP ks vs fb  H.size) (cwV 0 hts (gd_V (List.mem_of_getElem? (i := 1) rfl) (List.mem_of_getElem? (i := 2) rfl) (List.mem_of_getElem? (i := 3) rfl) (List.mem_of_getElem? (i := 4) rfl) (gd_mono k_s_J0_isLatin1_aae02 (fun _ h => List.mem_cons_of_mem _ (List.mem_append_right _ (List.mem_append_left _ h))))) rfl rfl rfl (by decide +kernel) ⟨Nat.le_of_ble_eq_true rfl, Nat.le_of_ble_eq_true rfl⟩) ⟨fun a U g mk q => by obtain ⟨q0, q1, qP, qK, qD, qN0⟩ := q; exact ⟨q0, q1, qP, va_K.moved (u := U) (U := U.calling g mk a) (Vm.Alike.refl U.vm) qK, qD, SO2_moved (u := U) (U := U.calling g mk a) (Vm.Alike.refl U.vm) qN0⟩, SO2_recv hNso hS, fun U hU hW => ⟨rfl, by rw [hU], by rw [hU]; exact hPc, va_K.moved hW.alike hK, hDc.weaken (fun _ _ _ _ => trivial), by rw [hU]; exact SO2_moved hW.alike (SO2_narrow (SO2_kept hNso hS.2.1) hFc)⟩⟩ rfl rfl hl.1 rfl (lv_room (Nat.le_of_ble_eq_true rfl)) dJ0_indexOf_7cf53_1 ⟨Nat.le_of_ble_eq_true rfl, Nat.le_of_ble_eq_true rfl⟩) hS (fun q _ h => hFc q h) hFc (fun r_1 u t H1 locs ht hvm hw hB hz1 hk1 hS => ?_)
  obtain ⟨hP1, hD1⟩ := hB
  rw [ht] at hP1
  obtain ⟨hP, hD⟩ := va_join (wr := []) (w1 := []) hP hD [] [] rfl rfl (by decide) (by decide) hk1 hFc hP1 hD1
  generalize H1 = H at hP hS ⊢
  replace hP : va_P (dC, dI) vwCl [] H := hP
  replace hD : va_D A [] := hD
  refine tp_v (.int 1) (congrArg Value.int hw) ?_
  refine lv_if_eq (tgt := 23) hx hb dJ0_indexOf_7cf53_4 (by decide) (fun cz => absurd cz (by decide)) (fun _ => ?_)
  refine lv_aload_n hx hb dJ0_indexOf_7cf53_7 rfl (lv_at hl 0 rfl) ?_
  refine vk_getf (v := .ref vs) hx hb hNso.2.2.1 hS hown (hts (.fieldLink RJ0 9 "java/lang/String" "value" "[B") (List.mem_of_getElem? (i := 5) rfl)) (fun _ h => h) dJ0_indexOf_7cf53_8 ?_
  refine lv_iload_n hx hb dJ0_indexOf_7cf53_11 rfl (lv_at hl 1 rfl) ?_
  refine lv_iload_n hx hb dJ0_indexOf_7cf53_12 rfl (lv_at hl 2 rfl) ?_
  refine lv_aload_n hx hb dJ0_indexOf_7cf53_13 rfl (lv_at hl 0 rfl) ?_
  have hPc := hP.sub (ws' := []) [] rfl
  have hDc := hD.sub (ws' := []) [] (by decide) rfl
  have hFc := va_free (wc := []) hD hS hA [] rfl
  refine va_calli (va_runV (As := []) (rest := [.int 0, .int p0, .ref vs]) ⟨hx, hb, hml, hown, hts⟩ (c_s_J0_length_8abf5 l dC dI cB cI cJ cZ cP ks vs fb  H.size) (cwV 0 hts (gd_V (List.mem_of_getElem? (i := 6) rfl) (List.mem_of_getElem? (i := 7) rfl) (List.mem_of_getElem? (i := 8) rfl) (List.mem_of_getElem? (i := 4) rfl) (gd_mono k_s_J0_length_8abf5 (fun _ h => List.mem_cons_of_mem _ (List.mem_append_right _ (List.mem_append_right _ (List.mem_append_left _ h)))))) rfl rfl rfl (by decide +kernel) ⟨Nat.le_of_ble_eq_true rfl, Nat.le_of_ble_eq_true rfl⟩) ⟨fun a U g mk q => by obtain ⟨q0, q1, qP, qK, qD, qN0⟩ := q; exact ⟨q0, q1, qP, va_K.moved (u := U) (U := U.calling g mk a) (Vm.Alike.refl U.vm) qK, qD, SO2_moved (u := U) (U := U.calling g mk a) (Vm.Alike.refl U.vm) qN0⟩, SO2_recv hNso hS, fun U hU hW => ⟨rfl, by rw [hU], by rw [hU]; exact hPc, va_K.moved hW.alike hK, hDc.weaken (fun _ _ _ _ => trivial), by rw [hU]; exact SO2_moved hW.alike (SO2_narrow (SO2_kept hNso hS.2.1) hFc)⟩⟩ rfl rfl hl.1 rfl (lv_room (Nat.le_of_ble_eq_true rfl)) dJ0_indexOf_7cf53_14 ⟨Nat.le_of_ble_eq_true rfl, Nat.le_of_ble_eq_true rfl⟩) hS (fun q _ h => hFc q h) hFc (fun r_2 u t H1 locs ht hvm hw hB hz1 hk1 hS => ?_)
  obtain ⟨hP1, hD1⟩ := hB
  rw [ht] at hP1
  obtain ⟨hP, hD⟩ := va_join (wr := []) (w1 := []) hP hD [] [] rfl rfl (by decide) (by decide) hk1 hFc hP1 hD1
  generalize H1 = H at hP hS ⊢
  replace hP : va_P (dC, dI) vwCl [] H := hP
  replace hD : va_D A [] := hD
  refine tp_v (.int 10) (congrArg Value.int hw) ?_
  have hPc := hP.sub (ws' := []) [] rfl
  have hDc := hD.sub (ws' := []) [] (by decide) rfl
  have hFc := va_free (wc := []) hD hS hA [] rfl
  refine va_calli (va_runS (As := [.ref vs, .int p0, .int 0, .int 10]) (rest := []) ⟨hx, hb, hml, hown, hts⟩ (c_s_J1_indexOf_4cfef_c l dC dI cB cI cJ cZ cP ks vs fb p0 H.size) (va_cwS 4 hts (gd_S (List.mem_of_getElem? (i := 9) rfl) (List.mem_of_getElem? (i := 10) rfl) (List.mem_of_getElem? (i := 11) rfl) (gd_mono k_s_J1_indexOf_4cfef_c (fun _ h => List.mem_cons_of_mem _ (List.mem_append_right _ (List.mem_append_right _ (List.mem_append_right _ (List.mem_append_left _ h))))))) rfl rfl rfl (by decide +kernel) ⟨Nat.le_of_ble_eq_true rfl, Nat.le_of_ble_eq_true rfl⟩) ⟨fun a U g mk q => by obtain ⟨q0, q1, qP, qK, qD, qN0⟩ := q; exact ⟨q0, q1, qP, va_K.moved (u := U) (U := U.calling g mk a) (Vm.Alike.refl U.vm) qK, qD, SO2_moved (u := U) (U := U.calling g mk a) (Vm.Alike.refl U.vm) qN0⟩, fun U hU hW => ⟨rfl, by rw [hU], by rw [hU]; exact hPc, va_K.moved hW.alike hK, hDc.weaken (fun _ _ _ _ => trivial), by rw [hU]; exact SO2_moved hW.alike (SO2_narrow (SO2_kept hNso hS.2.1) hFc)⟩⟩ rfl rfl hl.1 rfl (lv_room (Nat.le_of_ble_eq_true rfl)) dJ0_indexOf_7cf53_17 ⟨Nat.le_of_ble_eq_true rfl, Nat.le_of_ble_eq_true rfl⟩) hS (fun q _ h => hFc q h) hFc (fun r_3 u t H1 locs ht hvm hw hB hz1 hk1 hS => ?_)
  obtain ⟨hP1, hD1⟩ := hB
  rw [ht] at hP1
  obtain ⟨hP, hD⟩ := va_join (wr := []) (w1 := []) hP hD [] [] rfl rfl (by decide) (by decide) hk1 hFc hP1 hD1
  generalize H1 = H at hP hS ⊢
  replace hP : va_P (dC, dI) vwCl [] H := hP
  replace hD : va_D A [] := hD
  have hr_3 : rg (-1) (9) r_3 := hw
  refine lv_goto (tgt := 36) hx hb dJ0_indexOf_7cf53_20 (by decide) ?_
  have hP9 := hP.sub (ws' := []) [] rfl
  have hD9 := hD.sub (ws' := []) [] (by decide) rfl
  exact W.iret (v := r_3) hx hb hr (fun t ht hW => ⟨⟨r_3, (), rfl, (rg_mono hr_3 (by decide) (by decide)), ⟨by rw [ht]; exact hP9, hD9⟩⟩, hS.F ht⟩) hS.2.2 dJ0_indexOf_7cf53_36
def v_s_J0_indexOf_0f7a4 : List Cond := Cond.code yJ0_indexOf_0f7a4 cJ0_indexOf_0f7a4 2 (some .int) :: ([Cond.methodLink RJ0 633 yJ0_indexOf_7cf53, Cond.instanceMethod yJ0_indexOf_7cf53, Cond.selects RJ0 yJ0_indexOf_7cf53 yJ0_indexOf_7cf53, Cond.initialized RJ0] ++ (v_s_J0_indexOf_7cf53_c ++ ([])))
theorem k_s_J0_indexOf_0f7a4 : GoodIn lw_tbl v_s_J0_indexOf_0f7a4 := gd_c (List.mem_of_getElem? (i := 625) (by decide +kernel)) rfl (goodIn_app (gd_c (List.mem_of_getElem? (i := 626) (by decide +kernel)) rfl (gd_c (List.mem_of_getElem? (i := 627) (by decide +kernel)) rfl (gd_c (List.mem_of_getElem? (i := 628) (by decide +kernel)) rfl (gd_c (List.mem_of_getElem? (i := 135) (by decide +kernel)) rfl (gd_nil))))) (goodIn_app k_s_J0_indexOf_7cf53_c (gd_nil)))
set_option maxHeartbeats 2000000 in
set_option maxRecDepth 100000 in
theorem c_s_J0_indexOf_0f7a4 (l : Launch) (dC : Nat → ClassId) (dI : Nat → Nat → Nat) (cB cI cJ cZ cP : ClassId) (ks vs : Nat) (fb : Nat → Int32) (p0 : Int32) (sz : Nat) : Met l yJ0_indexOf_0f7a4 v_s_J0_indexOf_0f7a4 ({ frames := 3, cells := 0, slots := 0, locals := 75 }) (va_Pc [.ref ks, .int p0] (fun U => U.heap.size = sz ∧ va_P (dC, dI) vwCl [] U.heap ∧ va_K (dC, dI) vwCl (ty5 cB cI cJ cZ cP) U ∧ va_D (fun _ => True) [] ∧ SO2 ks vs fb (va_A [] sz) U U.heap)) (va_Qi (fun (r : Int32) (u9 : Unit) => rg (-1) (9) r) (fun u9 t => va_P (dC, dI) vwCl [] t.heap ∧ va_D (va_A [] sz) []) (va_A [] sz)) 0 0 (va_A [] sz) := by
  refine Met.ofW (cc := cJ0_indexOf_0f7a4) (maxL := 2) (ret := (some .int)) (by decide) rfl ?_
  intro p e s m args below meth c s₁ B hml hv
  obtain ⟨rfl, hsz, hP, hK, hD0, hNso⟩ := hv
  have hx := B.exec
  have hb := B.bytes
  have hr := B.returns
  have hts := atoms_spec (ws := v_s_J0_indexOf_0f7a4) B.pre
  have hown : s.vm.findClass RJ0 = some m.cls := findClass_of_methodNamed B.named
  have hlocks := B.notSynchronized
  subst hsz
  have hD := hD0.self (sz := s.heap.size)
  generalize hAe : va_A [] s.heap.size = A at hD hNso ⊢
  have hA : ∀ q : Nat, s.heap.size ≤ q → A q := fun q h => by rw [← hAe]; exact Or.inr h
  have hP : va_P (dC, dI) vwCl [] s.heap := hP
  have hl := lv_entry ([.ref ks, .int p0]) (n := 2) (Nat.le_of_ble_eq_true rfl)
  rw [lg_entry_eq]
  generalize (lg_sl ([.ref ks, .int p0]) ++ List.replicate (2 - (lg_sl ([.ref ks, .int p0])).length) Slot.unset).toArray = ls at hl ⊢
  have hl : lv_has ls 2 [(0, .ref ks), (1, .int p0)] := hl
  refine W_gen (A := A) hP (fun H locs hP hS => ?_)
  refine lv_aload_n hx hb dJ0_indexOf_0f7a4_0 rfl (lv_at hl 0 rfl) ?_
  refine lv_iload_n hx hb dJ0_indexOf_0f7a4_1 rfl (lv_at hl 1 rfl) ?_
  refine lv_iconst (v := 0) hx hb dJ0_indexOf_0f7a4_2 (by decide) ?_
  have hPc := hP.sub (ws' := []) [] rfl
  have hDc := hD.sub (ws' := []) [] (by decide) rfl
  have hFc := va_free (wc := []) hD hS hA [] rfl
  refine va_calli (va_runV (As := [.int p0, .int 0]) (rest := []) ⟨hx, hb, hml, hown, hts⟩ (c_s_J0_indexOf_7cf53_c l dC dI cB cI cJ cZ cP ks vs fb p0 H.size) (cwV 2 hts (gd_V (List.mem_of_getElem? (i := 1) rfl) (List.mem_of_getElem? (i := 2) rfl) (List.mem_of_getElem? (i := 3) rfl) (List.mem_of_getElem? (i := 4) rfl) (gd_mono k_s_J0_indexOf_7cf53_c (fun _ h => List.mem_cons_of_mem _ (List.mem_append_right _ (List.mem_append_left _ h))))) rfl rfl rfl (by decide +kernel) ⟨Nat.le_of_ble_eq_true rfl, Nat.le_of_ble_eq_true rfl⟩) ⟨fun a U g mk q => by obtain ⟨q0, q1, qP, qK, qD, qN0⟩ := q; exact ⟨q0, q1, qP, va_K.moved (u := U) (U := U.calling g mk a) (Vm.Alike.refl U.vm) qK, qD, SO2_moved (u := U) (U := U.calling g mk a) (Vm.Alike.refl U.vm) qN0⟩, SO2_recv hNso hS, fun U hU hW => ⟨rfl, by rw [hU], by rw [hU]; exact hPc, va_K.moved hW.alike hK, hDc.weaken (fun _ _ _ _ => trivial), by rw [hU]; exact SO2_moved hW.alike (SO2_narrow (SO2_kept hNso hS.2.1) hFc)⟩⟩ rfl rfl hl.1 rfl (lv_room (Nat.le_of_ble_eq_true rfl)) dJ0_indexOf_0f7a4_3 ⟨Nat.le_of_ble_eq_true rfl, Nat.le_of_ble_eq_true rfl⟩) hS (fun q _ h => hFc q h) hFc (fun r_1 u t H1 locs ht hvm hw hB hz1 hk1 hS => ?_)
  obtain ⟨hP1, hD1⟩ := hB
  rw [ht] at hP1
  obtain ⟨hP, hD⟩ := va_join (wr := []) (w1 := []) hP hD [] [] rfl rfl (by decide) (by decide) hk1 hFc hP1 hD1
  generalize H1 = H at hP hS ⊢
  replace hP : va_P (dC, dI) vwCl [] H := hP
  replace hD : va_D A [] := hD
  have hr_1 : rg (-1) (9) r_1 := hw
  have hP9 := hP.sub (ws' := []) [] rfl
  have hD9 := hD.sub (ws' := []) [] (by decide) rfl
  exact W.iret (v := r_1) hx hb hr (fun t ht hW => ⟨⟨r_1, (), rfl, (rg_mono hr_1 (by decide) (by decide)), ⟨by rw [ht]; exact hP9, hD9⟩⟩, hS.F ht⟩) hS.2.2 dJ0_indexOf_0f7a4_6
def v_s_J9_floorMod_7cf53 : List Cond := Cond.code yJ9_floorMod_7cf53 cJ9_floorMod_7cf53 3 (some .int) :: ([] ++ ([]))
theorem k_s_J9_floorMod_7cf53 : GoodIn lw_tbl v_s_J9_floorMod_7cf53 := gd_c (List.mem_of_getElem? (i := 1110) (by decide +kernel)) rfl (goodIn_app (gd_nil) (gd_nil))
set_option maxHeartbeats 2000000 in
set_option maxRecDepth 100000 in
theorem c_s_J9_floorMod_7cf53 (l : Launch) (dC : Nat → ClassId) (dI : Nat → Nat → Nat) (cB cI cJ cZ cP : ClassId) (p0 : Int32) (p1 : Int32) (hp1 : rg (1) (8) p1) (sz : Nat) : Met l yJ9_floorMod_7cf53 v_s_J9_floorMod_7cf53 ({ frames := 0, cells := 0, slots := 0, locals := 0 }) (va_Pc [.int p0, .int p1] (fun U => U.heap.size = sz ∧ va_P (dC, dI) vwCl [] U.heap ∧ va_K (dC, dI) vwCl (ty5 cB cI cJ cZ cP) U ∧ va_D (fun _ => True) [])) (va_Qi (fun (r : Int32) (u9 : Unit) => rg (-7) (15) r) (fun u9 t => va_P (dC, dI) vwCl [] t.heap ∧ va_D (va_A [] sz) []) (va_A [] sz)) 0 0 (va_A [] sz) := by
  refine Met_ofWF (cc := cJ9_floorMod_7cf53) (maxL := 3) (ret := (some .int)) (by decide +kernel) rfl ?_
  intro p e s m args below meth c s₁ B hml hv
  obtain ⟨rfl, hsz, hP, hK, hD0⟩ := hv
  have hx := B.exec
  have hb := B.bytes
  have hr := B.returns
  have hts := atoms_spec (ws := v_s_J9_floorMod_7cf53) B.pre
  have hown : s.vm.findClass RJ9 = some m.cls := findClass_of_methodNamed B.named
  have hlocks := B.notSynchronized
  subst hsz
  have hD := hD0.self (sz := s.heap.size)
  generalize hAe : va_A [] s.heap.size = A at hD ⊢
  have hA : ∀ q : Nat, s.heap.size ≤ q → A q := fun q h => by rw [← hAe]; exact Or.inr h
  have hP : va_P (dC, dI) vwCl [] s.heap := hP
  have hl := lv_entry ([.int p0, .int p1]) (n := 3) (Nat.le_of_ble_eq_true rfl)
  rw [lg_entry_eq]
  generalize (lg_sl ([.int p0, .int p1]) ++ List.replicate (3 - (lg_sl ([.int p0, .int p1])).length) Slot.unset).toArray = ls at hl ⊢
  have hl : lv_has ls 3 [(0, .int p0), (1, .int p1)] := hl
  refine W_gen (A := A) hP (fun H locs hP hS => ?_)
  refine lv_iload_n hx hb dJ9_floorMod_7cf53_0 rfl (lv_at hl 0 rfl) ?_
  refine lv_iload_n hx hb dJ9_floorMod_7cf53_1 rfl (lv_at hl 1 rfl) ?_
  refine lv_irem hx hb dJ9_floorMod_7cf53_2 (rg_nz (b := 8) (rg_mono hp1 (by decide) (by decide))) ?_
  refine lv_topi (fun x_1 ex_1 => ?_)
  have hx_1 : rg (-7) (7) x_1 := by rw [ex_1]; exact rg_mono (rg_remS (d := 8) (rg_mono hp1 (by decide) (by decide))) (by decide) (by decide)
  refine lv_istore_n (lv' := [(2, .int x_1), (0, .int p0), (1, .int p1)]) hx hb dJ9_floorMod_7cf53_3 rfl hl (by decide) rfl (fun ls hl => ?_)
  refine lv_iload_n hx hb dJ9_floorMod_7cf53_4 rfl (lv_at hl 1 rfl) ?_
  refine lv_iload_n hx hb dJ9_floorMod_7cf53_5 rfl (lv_at hl 2 rfl) ?_
  refine lv_ixor hx hb dJ9_floorMod_7cf53_6 ?_
  refine lv_topi (fun x_2 ex_2 => ?_)
  refine lv_if_ge (tgt := 18) hx hb dJ9_floorMod_7cf53_7 (by decide) (fun c_3 => ?_) (fun c_3 => ?_)
  · skip
    have h_4 : rg (0) (2147483647) x_2 := by have ha := (rg_any x_2); have hb_ := (rg_k (x := 0) (c := 0) (by decide)); simp only [rg, fa_lt, fa_le, fa_eq, (by decide : (0 : Int32).toInt = 0)] at ha hb_ c_3; simp only [rg]; omega
    refine lv_iload_n hx hb dJ9_floorMod_7cf53_18 rfl (lv_at hl 0 rfl) ?_
    have hP9 := hP.sub (ws' := []) [] rfl
    have hD9 := hD.sub (ws' := []) [] (by decide) rfl
    exact W.iret (v := x_1) hx hb hr (fun t ht hW => ⟨⟨x_1, (), rfl, (rg_mono hx_1 (by decide) (by decide)), ⟨by rw [ht]; exact hP9, hD9⟩⟩, hS.F ht⟩) hS.2.2 dJ9_floorMod_7cf53_19
  · skip
    have h_5 : rg (-2147483648) (-1) x_2 := by have ha := (rg_any x_2); have hb_ := (rg_k (x := 0) (c := 0) (by decide)); simp only [rg, fa_lt, fa_le, fa_eq, (by decide : (0 : Int32).toInt = 0)] at ha hb_ c_3; simp only [rg]; omega
    refine lv_iload_n hx hb dJ9_floorMod_7cf53_10 rfl (lv_at hl 0 rfl) ?_
    refine lv_if_eq (tgt := 18) hx hb dJ9_floorMod_7cf53_11 (by decide) (fun c_6 => ?_) (fun c_6 => ?_)
    · skip
      have h_7 : rg (0) (0) x_1 := by have ha := hx_1; have hb_ := (rg_k (x := 0) (c := 0) (by decide)); simp only [rg, fa_lt, fa_le, fa_eq, (by decide : (0 : Int32).toInt = 0)] at ha hb_ c_6; simp only [rg]; omega
      refine lv_iload_n hx hb dJ9_floorMod_7cf53_18 rfl (lv_at hl 0 rfl) ?_
      have hP9 := hP.sub (ws' := []) [] rfl
      have hD9 := hD.sub (ws' := []) [] (by decide) rfl
      exact W.iret (v := x_1) hx hb hr (fun t ht hW => ⟨⟨x_1, (), rfl, (rg_mono h_7 (by decide) (by decide)), ⟨by rw [ht]; exact hP9, hD9⟩⟩, hS.F ht⟩) hS.2.2 dJ9_floorMod_7cf53_19
    · skip
      refine lv_iload_n hx hb dJ9_floorMod_7cf53_14 rfl (lv_at hl 0 rfl) ?_
      refine lv_iload_n hx hb dJ9_floorMod_7cf53_15 rfl (lv_at hl 2 rfl) ?_
      refine lv_iadd hx hb dJ9_floorMod_7cf53_16 ?_
      refine lv_topi (fun x_8 ex_8 => ?_)
      have hx_8 : rg (-6) (15) x_8 := by rw [ex_8]; exact rg_mono (rg_add hx_1 hp1 (by decide) (by decide)) (by decide) (by decide)
      have qx_8 : x_8.toInt = x_1.toInt + p1.toInt := by rw [ex_8]; exact rg_addQ hx_1 hp1 (by decide) (by decide)
      have hP9 := hP.sub (ws' := []) [] rfl
      have hD9 := hD.sub (ws' := []) [] (by decide) rfl
      exact W.iret (v := x_8) hx hb hr (fun t ht hW => ⟨⟨x_8, (), rfl, (rg_mono hx_8 (by decide) (by decide)), ⟨by rw [ht]; exact hP9, hD9⟩⟩, hS.F ht⟩) hS.2.2 dJ9_floorMod_7cf53_17
def v_s_X8_ruled : List Cond := Cond.code yX8_ruled cX8_ruled 4 (some .int) :: ([Cond.fieldLink RX8 27 "MayRings" "ground" "LMayRings$Valley;", Cond.fieldLink RX8 108 "MayRings$Valley" "houses" "I", Cond.fieldLink RX8 34 "MayRings" "past" "LMayRings$Past;", Cond.fieldLink RX8 142 "MayRings$Past" "out" "I", Cond.methodLink RX8 263 yJ9_floorMod_7cf53, Cond.static yJ9_floorMod_7cf53, Cond.initialized RJ9] ++ (wsX40 ++ (wsX60 ++ (wsX80 ++ (v_s_J9_floorMod_7cf53 ++ ([]))))))
theorem k_s_X8_ruled : GoodIn lw_tbl v_s_X8_ruled := gd_c (List.mem_of_getElem? (i := 1107) (by decide +kernel)) rfl (goodIn_app (gd_c (List.mem_of_getElem? (i := 534) (by decide +kernel)) rfl (gd_c (List.mem_of_getElem? (i := 225) (by decide +kernel)) rfl (gd_c (List.mem_of_getElem? (i := 535) (by decide +kernel)) rfl (gd_c (List.mem_of_getElem? (i := 379) (by decide +kernel)) rfl (gd_c (List.mem_of_getElem? (i := 1108) (by decide +kernel)) rfl (gd_c (List.mem_of_getElem? (i := 1109) (by decide +kernel)) rfl (gd_c (List.mem_of_getElem? (i := 145) (by decide +kernel)) rfl (gd_nil)))))))) (goodIn_app kfX4 (goodIn_app kfX6 (goodIn_app kfX8 (goodIn_app k_s_J9_floorMod_7cf53 (gd_nil))))))
set_option maxHeartbeats 2000000 in
set_option maxRecDepth 100000 in
theorem c_s_X8_ruled (l : Launch) (dC : Nat → ClassId) (dI : Nat → Nat → Nat) (cB cI cJ cZ cP : ClassId) (h0 : Nat) (h1 : Nat) (a0 : Int32) (h2 : Nat) (h17 : Nat) (h18 : Nat) (h19 : Nat) (h20 : Nat) (h21 : Nat) (h22 : Nat) (h23 : Nat) (a18 : Int32) (ha18 : rg (0) (9) a18) (a19 : Int32) (a20 : Int32) (a21 : Int32) (h27 : Nat) (h28 : Nat) (h29 : Nat) (a23 : Int32) (a24 : Int32) (ha24 : rg (0) (511) a24) (a25 : Int32) (a26 : Int32) (h31 : Nat) (h44 : Nat) (h51 : Nat) (h53 : Nat) (h55 : Nat) (h62 : Nat) (h69 : Nat) (p0 : Int32) (p1 : Int32) (sz : Nat) : Met l yX8_ruled v_s_X8_ruled ({ frames := 1, cells := 0, slots := 0, locals := 22 }) (va_Pc [.ref h0, .int p0, .int p1] (fun U => U.heap.size = sz ∧ va_P (dC, dI) vwCl [(h0, .inr (8, [.ref h1, .int a0, .ref h2, .ref h17, .ref h27, .ref h31, .ref h44, .ref h51, .ref h53, .ref h55, .ref h62, .ref h69])), (h17, .inr (6, [.ref h18, .ref h19, .ref h20, .ref h21, .ref h22, .ref h23, .int a18, .int a19, .int a20, .int a21])), (h27, .inr (4, [.ref h28, .ref h29, .int a23, .int a24, .int a25, .int a26]))] U.heap ∧ va_K (dC, dI) vwCl (ty5 cB cI cJ cZ cP) U ∧ va_D (fun _ => True) [(h0, .inr (8, [.ref h1, .int a0, .ref h2, .ref h17, .ref h27, .ref h31, .ref h44, .ref h51, .ref h53, .ref h55, .ref h62, .ref h69])), (h17, .inr (6, [.ref h18, .ref h19, .ref h20, .ref h21, .ref h22, .ref h23, .int a18, .int a19, .int a20, .int a21])), (h27, .inr (4, [.ref h28, .ref h29, .int a23, .int a24, .int a25, .int a26]))])) (va_Qi (fun (r : Int32) (u9 : Unit) => rg (-7) (15) r) (fun u9 t => va_P (dC, dI) vwCl [(h0, .inr (8, [.ref h1, .int a0, .ref h2, .ref h17, .ref h27, .ref h31, .ref h44, .ref h51, .ref h53, .ref h55, .ref h62, .ref h69])), (h17, .inr (6, [.ref h18, .ref h19, .ref h20, .ref h21, .ref h22, .ref h23, .int a18, .int a19, .int a20, .int a21])), (h27, .inr (4, [.ref h28, .ref h29, .int a23, .int a24, .int a25, .int a26]))] t.heap ∧ va_D (va_A [(h0, .inr (8, [.ref h1, .int a0, .ref h2, .ref h17, .ref h27, .ref h31, .ref h44, .ref h51, .ref h53, .ref h55, .ref h62, .ref h69])), (h17, .inr (6, [.ref h18, .ref h19, .ref h20, .ref h21, .ref h22, .ref h23, .int a18, .int a19, .int a20, .int a21])), (h27, .inr (4, [.ref h28, .ref h29, .int a23, .int a24, .int a25, .int a26]))] sz) [(h0, .inr (8, [.ref h1, .int a0, .ref h2, .ref h17, .ref h27, .ref h31, .ref h44, .ref h51, .ref h53, .ref h55, .ref h62, .ref h69])), (h17, .inr (6, [.ref h18, .ref h19, .ref h20, .ref h21, .ref h22, .ref h23, .int a18, .int a19, .int a20, .int a21])), (h27, .inr (4, [.ref h28, .ref h29, .int a23, .int a24, .int a25, .int a26]))]) (va_A [(h0, .inr (8, [.ref h1, .int a0, .ref h2, .ref h17, .ref h27, .ref h31, .ref h44, .ref h51, .ref h53, .ref h55, .ref h62, .ref h69])), (h17, .inr (6, [.ref h18, .ref h19, .ref h20, .ref h21, .ref h22, .ref h23, .int a18, .int a19, .int a20, .int a21])), (h27, .inr (4, [.ref h28, .ref h29, .int a23, .int a24, .int a25, .int a26]))] sz)) 0 0 (va_A [(h0, .inr (8, [.ref h1, .int a0, .ref h2, .ref h17, .ref h27, .ref h31, .ref h44, .ref h51, .ref h53, .ref h55, .ref h62, .ref h69])), (h17, .inr (6, [.ref h18, .ref h19, .ref h20, .ref h21, .ref h22, .ref h23, .int a18, .int a19, .int a20, .int a21])), (h27, .inr (4, [.ref h28, .ref h29, .int a23, .int a24, .int a25, .int a26]))] sz) := by
  refine Met.ofW (cc := cX8_ruled) (maxL := 4) (ret := (some .int)) (by decide) rfl ?_
  intro p e s m args below meth c s₁ B hml hv
  obtain ⟨rfl, hsz, hP, hK, hD0⟩ := hv
  have hx := B.exec
  have hb := B.bytes
  have hr := B.returns
  have hts := atoms_spec (ws := v_s_X8_ruled) B.pre
  have hown : s.vm.findClass RX8 = some m.cls := findClass_of_methodNamed B.named
  have hlocks := B.notSynchronized
  have hinX4 : ∀ w ∈ wsX40, w ∈ v_s_X8_ruled := fun _ h => List.mem_cons_of_mem _ (List.mem_append_right _ (List.mem_append_left _ h))
  have hinX6 : ∀ w ∈ wsX60, w ∈ v_s_X8_ruled := fun _ h => List.mem_cons_of_mem _ (List.mem_append_right _ (List.mem_append_right _ (List.mem_append_left _ h)))
  have hinX8 : ∀ w ∈ wsX80, w ∈ v_s_X8_ruled := fun _ h => List.mem_cons_of_mem _ (List.mem_append_right _ (List.mem_append_right _ (List.mem_append_right _ (List.mem_append_left _ h))))
  subst hsz
  have hD := hD0.self (sz := s.heap.size)
  generalize hAe : va_A [(h0, .inr (8, [.ref h1, .int a0, .ref h2, .ref h17, .ref h27, .ref h31, .ref h44, .ref h51, .ref h53, .ref h55, .ref h62, .ref h69])), (h17, .inr (6, [.ref h18, .ref h19, .ref h20, .ref h21, .ref h22, .ref h23, .int a18, .int a19, .int a20, .int a21])), (h27, .inr (4, [.ref h28, .ref h29, .int a23, .int a24, .int a25, .int a26]))] s.heap.size = A at hD ⊢
  have hA : ∀ q : Nat, s.heap.size ≤ q → A q := fun q h => by rw [← hAe]; exact Or.inr h
  have hP : va_P (dC, dI) vwCl [(h0, .inr (8, [.ref h1, .int a0, .ref h2, .ref h17, .ref h27, .ref h31, .ref h44, .ref h51, .ref h53, .ref h55, .ref h62, .ref h69])), (h17, .inr (6, [.ref h18, .ref h19, .ref h20, .ref h21, .ref h22, .ref h23, .int a18, .int a19, .int a20, .int a21])), (h27, .inr (4, [.ref h28, .ref h29, .int a23, .int a24, .int a25, .int a26]))] s.heap := hP
  have hl := lv_entry ([.ref h0, .int p0, .int p1]) (n := 4) (Nat.le_of_ble_eq_true rfl)
  rw [lg_entry_eq]
  generalize (lg_sl ([.ref h0, .int p0, .int p1]) ++ List.replicate (4 - (lg_sl ([.ref h0, .int p0, .int p1])).length) Slot.unset).toArray = ls at hl ⊢
  have hl : lv_has ls 4 [(0, .ref h0), (1, .int p0), (2, .int p1)] := hl
  refine W_gen (A := A) hP (fun H locs hP hS => ?_)
  refine lv_aload_n hx hb dX8_ruled_0 rfl (lv_at hl 0 rfl) ?_
  refine va_get (D := (dC, dI)) (ci := 8) (v := .ref h17) (C := RX8) (T := TX8) (N := 12) hx hb hts hinX8 hown hK hP 0 rfl rfl 3 (by decide) (hts (.fieldLink RX8 27 "MayRings" "ground" "LMayRings$Valley;") (List.mem_of_getElem? (i := 1) rfl)) (fun _ h9 => h9) rfl dX8_ruled_1 ?_
  refine va_get (D := (dC, dI)) (ci := 6) (v := .int a18) (C := RX6) (T := TX6) (N := 10) hx hb hts hinX6 hown hK hP 1 rfl rfl 6 (by decide) (hts (.fieldLink RX8 108 "MayRings$Valley" "houses" "I") (List.mem_of_getElem? (i := 2) rfl)) (fun _ h9 => h9) rfl dX8_ruled_4 ?_
  refine lv_istore_n (lv' := [(3, .int a18), (0, .ref h0), (1, .int p0), (2, .int p1)]) hx hb dX8_ruled_7 rfl hl (by decide) rfl (fun ls hl => ?_)
  refine lv_aload_n hx hb dX8_ruled_8 rfl (lv_at hl 1 rfl) ?_
  refine va_get (D := (dC, dI)) (ci := 8) (v := .ref h27) (C := RX8) (T := TX8) (N := 12) hx hb hts hinX8 hown hK hP 0 rfl rfl 4 (by decide) (hts (.fieldLink RX8 34 "MayRings" "past" "LMayRings$Past;") (List.mem_of_getElem? (i := 3) rfl)) (fun _ h9 => h9) rfl dX8_ruled_9 ?_
  refine va_get (D := (dC, dI)) (ci := 4) (v := .int a24) (C := RX4) (T := TX4) (N := 6) hx hb hts hinX4 hown hK hP 2 rfl rfl 3 (by decide) (hts (.fieldLink RX8 142 "MayRings$Past" "out" "I") (List.mem_of_getElem? (i := 4) rfl)) (fun _ h9 => h9) rfl dX8_ruled_12 ?_
  refine lv_if_ne (tgt := 51) hx hb dX8_ruled_15 (by decide) (fun c_1 => ?_) (fun c_1 => ?_)
  · skip
    have h_2 : rg (1) (511) a24 := by have ha := ha24; have hb_ := (rg_k (x := 0) (c := 0) (by decide)); simp only [rg, fa_lt, fa_le, fa_eq, (by decide : (0 : Int32).toInt = 0)] at ha hb_ c_1; simp only [rg]; omega
    refine lv_iconst (v := (-1)) hx hb dX8_ruled_51 (by decide) ?_
    have hP9 := hP.sub (ws' := [(h0, .inr (8, [.ref h1, .int a0, .ref h2, .ref h17, .ref h27, .ref h31, .ref h44, .ref h51, .ref h53, .ref h55, .ref h62, .ref h69])), (h17, .inr (6, [.ref h18, .ref h19, .ref h20, .ref h21, .ref h22, .ref h23, .int a18, .int a19, .int a20, .int a21])), (h27, .inr (4, [.ref h28, .ref h29, .int a23, .int a24, .int a25, .int a26]))]) [0, 1, 2] rfl
    have hD9 := hD.sub (ws' := [(h0, .inr (8, [.ref h1, .int a0, .ref h2, .ref h17, .ref h27, .ref h31, .ref h44, .ref h51, .ref h53, .ref h55, .ref h62, .ref h69])), (h17, .inr (6, [.ref h18, .ref h19, .ref h20, .ref h21, .ref h22, .ref h23, .int a18, .int a19, .int a20, .int a21])), (h27, .inr (4, [.ref h28, .ref h29, .int a23, .int a24, .int a25, .int a26]))]) [0, 1, 2] (by decide) rfl
    exact W.iret (v := (-1)) hx hb hr (fun t ht hW => ⟨⟨(-1), (), rfl, (rg_mono (rg_k (x := (-1)) (c := -1) (by decide)) (by decide) (by decide)), ⟨by rw [ht]; exact hP9, hD9⟩⟩, hS.F ht⟩) hS.2.2 dX8_ruled_52
  · skip
    have h_3 : rg (0) (0) a24 := by have ha := ha24; have hb_ := (rg_k (x := 0) (c := 0) (by decide)); simp only [rg, fa_lt, fa_le, fa_eq, (by decide : (0 : Int32).toInt = 0)] at ha hb_ c_1; simp only [rg]; omega
    refine lv_iload_n hx hb dX8_ruled_18 rfl (lv_at hl 0 rfl) ?_
    refine lv_iconst (v := 3) hx hb dX8_ruled_19 (by decide) ?_
    refine lv_icmp_lt (tgt := 51) hx hb dX8_ruled_20 (by decide) (fun c_4 => ?_) (fun c_4 => ?_)
    · skip
      have h_5 : rg (0) (2) a18 := by have ha := ha18; have hb_ := (rg_k (x := 3) (c := 3) (by decide)); simp only [rg, fa_lt, fa_le, fa_eq, (by decide : (3 : Int32).toInt = 3)] at ha hb_ c_4; simp only [rg]; omega
      refine lv_iconst (v := (-1)) hx hb dX8_ruled_51 (by decide) ?_
      have hP9 := hP.sub (ws' := [(h0, .inr (8, [.ref h1, .int a0, .ref h2, .ref h17, .ref h27, .ref h31, .ref h44, .ref h51, .ref h53, .ref h55, .ref h62, .ref h69])), (h17, .inr (6, [.ref h18, .ref h19, .ref h20, .ref h21, .ref h22, .ref h23, .int a18, .int a19, .int a20, .int a21])), (h27, .inr (4, [.ref h28, .ref h29, .int a23, .int a24, .int a25, .int a26]))]) [0, 1, 2] rfl
      have hD9 := hD.sub (ws' := [(h0, .inr (8, [.ref h1, .int a0, .ref h2, .ref h17, .ref h27, .ref h31, .ref h44, .ref h51, .ref h53, .ref h55, .ref h62, .ref h69])), (h17, .inr (6, [.ref h18, .ref h19, .ref h20, .ref h21, .ref h22, .ref h23, .int a18, .int a19, .int a20, .int a21])), (h27, .inr (4, [.ref h28, .ref h29, .int a23, .int a24, .int a25, .int a26]))]) [0, 1, 2] (by decide) rfl
      exact W.iret (v := (-1)) hx hb hr (fun t ht hW => ⟨⟨(-1), (), rfl, (rg_mono (rg_k (x := (-1)) (c := -1) (by decide)) (by decide) (by decide)), ⟨by rw [ht]; exact hP9, hD9⟩⟩, hS.F ht⟩) hS.2.2 dX8_ruled_52
    · skip
      have h_6 : rg (3) (9) a18 := by have ha := ha18; have hb_ := (rg_k (x := 3) (c := 3) (by decide)); simp only [rg, fa_lt, fa_le, fa_eq, (by decide : (3 : Int32).toInt = 3)] at ha hb_ c_4; simp only [rg]; omega
      refine lv_iload_n hx hb dX8_ruled_23 rfl (lv_at hl 0 rfl) ?_
      refine lv_iconst (v := 2) hx hb dX8_ruled_24 (by decide) ?_
      refine lv_irem hx hb dX8_ruled_25 (by decide) ?_
      refine lv_topi (fun x_7 ex_7 => ?_)
      have hx_7 : rg (0) (1) x_7 := by rw [ex_7]; exact rg_mono (rg_rem (b := 9) (d := 2) (rg_mono h_6 (by decide) (by decide)) (rg_mono (rg_k (x := 2) (c := 2) (by decide)) (by decide) (by decide))) (by decide) (by decide)
      refine lv_if_eq (tgt := 51) hx hb dX8_ruled_26 (by decide) (fun c_8 => ?_) (fun c_8 => ?_)
      · skip
        have h_9 : rg (0) (0) x_7 := by have ha := hx_7; have hb_ := (rg_k (x := 0) (c := 0) (by decide)); simp only [rg, fa_lt, fa_le, fa_eq, (by decide : (0 : Int32).toInt = 0)] at ha hb_ c_8; simp only [rg]; omega
        refine lv_iconst (v := (-1)) hx hb dX8_ruled_51 (by decide) ?_
        have hP9 := hP.sub (ws' := [(h0, .inr (8, [.ref h1, .int a0, .ref h2, .ref h17, .ref h27, .ref h31, .ref h44, .ref h51, .ref h53, .ref h55, .ref h62, .ref h69])), (h17, .inr (6, [.ref h18, .ref h19, .ref h20, .ref h21, .ref h22, .ref h23, .int a18, .int a19, .int a20, .int a21])), (h27, .inr (4, [.ref h28, .ref h29, .int a23, .int a24, .int a25, .int a26]))]) [0, 1, 2] rfl
        have hD9 := hD.sub (ws' := [(h0, .inr (8, [.ref h1, .int a0, .ref h2, .ref h17, .ref h27, .ref h31, .ref h44, .ref h51, .ref h53, .ref h55, .ref h62, .ref h69])), (h17, .inr (6, [.ref h18, .ref h19, .ref h20, .ref h21, .ref h22, .ref h23, .int a18, .int a19, .int a20, .int a21])), (h27, .inr (4, [.ref h28, .ref h29, .int a23, .int a24, .int a25, .int a26]))]) [0, 1, 2] (by decide) rfl
        exact W.iret (v := (-1)) hx hb hr (fun t ht hW => ⟨⟨(-1), (), rfl, (rg_mono (rg_k (x := (-1)) (c := -1) (by decide)) (by decide) (by decide)), ⟨by rw [ht]; exact hP9, hD9⟩⟩, hS.F ht⟩) hS.2.2 dX8_ruled_52
      · skip
        have h_10 : rg (1) (1) x_7 := by have ha := hx_7; have hb_ := (rg_k (x := 0) (c := 0) (by decide)); simp only [rg, fa_lt, fa_le, fa_eq, (by decide : (0 : Int32).toInt = 0)] at ha hb_ c_8; simp only [rg]; omega
        refine lv_iload_n hx hb dX8_ruled_29 rfl (lv_at hl 2 rfl) ?_
        refine lv_if_lt (tgt := 51) hx hb dX8_ruled_30 (by decide) (fun c_11 => ?_) (fun c_11 => ?_)
        · skip
          have h_12 : rg (-2147483648) (-1) p0 := by have ha := (rg_any p0); have hb_ := (rg_k (x := 0) (c := 0) (by decide)); simp only [rg, fa_lt, fa_le, fa_eq, (by decide : (0 : Int32).toInt = 0)] at ha hb_ c_11; simp only [rg]; omega
          refine lv_iconst (v := (-1)) hx hb dX8_ruled_51 (by decide) ?_
          have hP9 := hP.sub (ws' := [(h0, .inr (8, [.ref h1, .int a0, .ref h2, .ref h17, .ref h27, .ref h31, .ref h44, .ref h51, .ref h53, .ref h55, .ref h62, .ref h69])), (h17, .inr (6, [.ref h18, .ref h19, .ref h20, .ref h21, .ref h22, .ref h23, .int a18, .int a19, .int a20, .int a21])), (h27, .inr (4, [.ref h28, .ref h29, .int a23, .int a24, .int a25, .int a26]))]) [0, 1, 2] rfl
          have hD9 := hD.sub (ws' := [(h0, .inr (8, [.ref h1, .int a0, .ref h2, .ref h17, .ref h27, .ref h31, .ref h44, .ref h51, .ref h53, .ref h55, .ref h62, .ref h69])), (h17, .inr (6, [.ref h18, .ref h19, .ref h20, .ref h21, .ref h22, .ref h23, .int a18, .int a19, .int a20, .int a21])), (h27, .inr (4, [.ref h28, .ref h29, .int a23, .int a24, .int a25, .int a26]))]) [0, 1, 2] (by decide) rfl
          exact W.iret (v := (-1)) hx hb hr (fun t ht hW => ⟨⟨(-1), (), rfl, (rg_mono (rg_k (x := (-1)) (c := -1) (by decide)) (by decide) (by decide)), ⟨by rw [ht]; exact hP9, hD9⟩⟩, hS.F ht⟩) hS.2.2 dX8_ruled_52
        · skip
          have h_13 : rg (0) (2147483647) p0 := by have ha := (rg_any p0); have hb_ := (rg_k (x := 0) (c := 0) (by decide)); simp only [rg, fa_lt, fa_le, fa_eq, (by decide : (0 : Int32).toInt = 0)] at ha hb_ c_11; simp only [rg]; omega
          refine lv_iload_n hx hb dX8_ruled_33 rfl (lv_at hl 2 rfl) ?_
          refine lv_iload_n hx hb dX8_ruled_34 rfl (lv_at hl 0 rfl) ?_
          refine lv_iconst (v := 1) hx hb dX8_ruled_35 (by decide) ?_
          refine lv_isub hx hb dX8_ruled_36 ?_
          refine lv_topi (fun x_14 ex_14 => ?_)
          have hx_14 : rg (2) (8) x_14 := by rw [ex_14]; exact rg_mono (rg_sub h_6 (rg_k (x := 1) (c := 1) (by decide)) (by decide) (by decide)) (by decide) (by decide)
          have qx_14 : x_14.toInt = a18.toInt + (-1) := by rw [ex_14]; exact rg_subE h_6 (rg_k (x := 1) (c := 1) (by decide)) (by decide) (by decide) trivial
          refine lv_iconst (v := 2) hx hb dX8_ruled_37 (by decide) ?_
          refine lv_idiv hx hb dX8_ruled_38 (by decide) ?_
          refine lv_topi (fun x_15 ex_15 => ?_)
          have hx_15 : rg (0) (8) x_15 := by rw [ex_15]; exact rg_mono (rg_div (b := 8) (d := 2) (rg_mono hx_14 (by decide) (by decide)) (rg_mono (rg_k (x := 2) (c := 2) (by decide)) (by decide) (by decide))) (by decide) (by decide)
          refine lv_icmp_ge (tgt := 51) hx hb dX8_ruled_39 (by decide) (fun c_16 => ?_) (fun c_16 => ?_)
          · skip
            refine lv_iconst (v := (-1)) hx hb dX8_ruled_51 (by decide) ?_
            have hP9 := hP.sub (ws' := [(h0, .inr (8, [.ref h1, .int a0, .ref h2, .ref h17, .ref h27, .ref h31, .ref h44, .ref h51, .ref h53, .ref h55, .ref h62, .ref h69])), (h17, .inr (6, [.ref h18, .ref h19, .ref h20, .ref h21, .ref h22, .ref h23, .int a18, .int a19, .int a20, .int a21])), (h27, .inr (4, [.ref h28, .ref h29, .int a23, .int a24, .int a25, .int a26]))]) [0, 1, 2] rfl
            have hD9 := hD.sub (ws' := [(h0, .inr (8, [.ref h1, .int a0, .ref h2, .ref h17, .ref h27, .ref h31, .ref h44, .ref h51, .ref h53, .ref h55, .ref h62, .ref h69])), (h17, .inr (6, [.ref h18, .ref h19, .ref h20, .ref h21, .ref h22, .ref h23, .int a18, .int a19, .int a20, .int a21])), (h27, .inr (4, [.ref h28, .ref h29, .int a23, .int a24, .int a25, .int a26]))]) [0, 1, 2] (by decide) rfl
            exact W.iret (v := (-1)) hx hb hr (fun t ht hW => ⟨⟨(-1), (), rfl, (rg_mono (rg_k (x := (-1)) (c := -1) (by decide)) (by decide) (by decide)), ⟨by rw [ht]; exact hP9, hD9⟩⟩, hS.F ht⟩) hS.2.2 dX8_ruled_52
          · skip
            have h_17 : rg (0) (7) p0 := by have ha := h_13; have hb_ := hx_15; simp only [rg, fa_lt, fa_le, fa_eq] at ha hb_ c_16; simp only [rg]; omega
            have h_18 : rg (1) (8) x_15 := by have ha := h_17; have hb_ := hx_15; have hc_ := c_16; simp only [rg, fa_lt, fa_le, fa_eq] at ha hb_ hc_; simp only [rg]; omega
            have h_19 : rg (1) (8) x_15 := by have ha := h_13; have hb_ := hx_15; simp only [rg, fa_lt, fa_le, fa_eq] at ha hb_ c_16; simp only [rg]; omega
            refine lv_iload_n hx hb dX8_ruled_42 rfl (lv_at hl 3 rfl) ?_
            refine lv_if_lt (tgt := 51) hx hb dX8_ruled_43 (by decide) (fun c_20 => ?_) (fun c_20 => ?_)
            · skip
              have h_21 : rg (-2147483648) (-1) p1 := by have ha := (rg_any p1); have hb_ := (rg_k (x := 0) (c := 0) (by decide)); simp only [rg, fa_lt, fa_le, fa_eq, (by decide : (0 : Int32).toInt = 0)] at ha hb_ c_20; simp only [rg]; omega
              refine lv_iconst (v := (-1)) hx hb dX8_ruled_51 (by decide) ?_
              have hP9 := hP.sub (ws' := [(h0, .inr (8, [.ref h1, .int a0, .ref h2, .ref h17, .ref h27, .ref h31, .ref h44, .ref h51, .ref h53, .ref h55, .ref h62, .ref h69])), (h17, .inr (6, [.ref h18, .ref h19, .ref h20, .ref h21, .ref h22, .ref h23, .int a18, .int a19, .int a20, .int a21])), (h27, .inr (4, [.ref h28, .ref h29, .int a23, .int a24, .int a25, .int a26]))]) [0, 1, 2] rfl
              have hD9 := hD.sub (ws' := [(h0, .inr (8, [.ref h1, .int a0, .ref h2, .ref h17, .ref h27, .ref h31, .ref h44, .ref h51, .ref h53, .ref h55, .ref h62, .ref h69])), (h17, .inr (6, [.ref h18, .ref h19, .ref h20, .ref h21, .ref h22, .ref h23, .int a18, .int a19, .int a20, .int a21])), (h27, .inr (4, [.ref h28, .ref h29, .int a23, .int a24, .int a25, .int a26]))]) [0, 1, 2] (by decide) rfl
              exact W.iret (v := (-1)) hx hb hr (fun t ht hW => ⟨⟨(-1), (), rfl, (rg_mono (rg_k (x := (-1)) (c := -1) (by decide)) (by decide) (by decide)), ⟨by rw [ht]; exact hP9, hD9⟩⟩, hS.F ht⟩) hS.2.2 dX8_ruled_52
            · skip
              have h_22 : rg (0) (2147483647) p1 := by have ha := (rg_any p1); have hb_ := (rg_k (x := 0) (c := 0) (by decide)); simp only [rg, fa_lt, fa_le, fa_eq, (by decide : (0 : Int32).toInt = 0)] at ha hb_ c_20; simp only [rg]; omega
              refine lv_iload_n hx hb dX8_ruled_46 rfl (lv_at hl 3 rfl) ?_
              refine lv_iload_n hx hb dX8_ruled_47 rfl (lv_at hl 0 rfl) ?_
              refine lv_icmp_lt (tgt := 53) hx hb dX8_ruled_48 (by decide) (fun c_23 => ?_) (fun c_23 => ?_)
              · skip
                have h_24 : rg (0) (8) p1 := by have ha := h_22; have hb_ := h_6; simp only [rg, fa_lt, fa_le, fa_eq] at ha hb_ c_23; simp only [rg]; omega
                refine lv_iload_n hx hb dX8_ruled_53 rfl (lv_at hl 3 rfl) ?_
                refine lv_if_ne (tgt := 61) hx hb dX8_ruled_54 (by decide) (fun c_25 => ?_) (fun c_25 => ?_)
                · skip
                  have h_26 : rg (1) (8) p1 := by have ha := h_24; have hb_ := (rg_k (x := 0) (c := 0) (by decide)); simp only [rg, fa_lt, fa_le, fa_eq, (by decide : (0 : Int32).toInt = 0)] at ha hb_ c_25; simp only [rg]; omega
                  refine lv_iload_n hx hb dX8_ruled_61 rfl (lv_at hl 3 rfl) ?_
                  refine lv_iconst (v := 2) hx hb dX8_ruled_62 (by decide) ?_
                  refine lv_irem hx hb dX8_ruled_63 (by decide) ?_
                  refine lv_topi (fun x_27 ex_27 => ?_)
                  have hx_27 : rg (0) (1) x_27 := by rw [ex_27]; exact rg_mono (rg_rem (b := 8) (d := 2) (rg_mono h_26 (by decide) (by decide)) (rg_mono (rg_k (x := 2) (c := 2) (by decide)) (by decide) (by decide))) (by decide) (by decide)
                  refine lv_if_ne (tgt := 75) hx hb dX8_ruled_64 (by decide) (fun c_28 => ?_) (fun c_28 => ?_)
                  · skip
                    have h_29 : rg (1) (1) x_27 := by have ha := hx_27; have hb_ := (rg_k (x := 0) (c := 0) (by decide)); simp only [rg, fa_lt, fa_le, fa_eq, (by decide : (0 : Int32).toInt = 0)] at ha hb_ c_28; simp only [rg]; omega
                    refine lv_iload_n hx hb dX8_ruled_75 rfl (lv_at hl 2 rfl) ?_
                    refine lv_iload_n hx hb dX8_ruled_76 rfl (lv_at hl 3 rfl) ?_
                    refine lv_iconst (v := 2) hx hb dX8_ruled_77 (by decide) ?_
                    refine lv_idiv hx hb dX8_ruled_78 (by decide) ?_
                    refine lv_topi (fun x_30 ex_30 => ?_)
                    have hx_30 : rg (0) (8) x_30 := by rw [ex_30]; exact rg_mono (rg_div (b := 8) (d := 2) (rg_mono h_26 (by decide) (by decide)) (rg_mono (rg_k (x := 2) (c := 2) (by decide)) (by decide) (by decide))) (by decide) (by decide)
                    refine lv_isub hx hb dX8_ruled_79 ?_
                    refine lv_topi (fun x_31 ex_31 => ?_)
                    have hx_31 : rg (-8) (7) x_31 := by rw [ex_31]; exact rg_mono (rg_sub h_17 hx_30 (by decide) (by decide)) (by decide) (by decide)
                    have qx_31 : x_31.toInt = p0.toInt - x_30.toInt := by rw [ex_31]; exact rg_subQ h_17 hx_30 (by decide) (by decide)
                    refine lv_iload_n hx hb dX8_ruled_80 rfl (lv_at hl 0 rfl) ?_
                    refine lv_iconst (v := 1) hx hb dX8_ruled_81 (by decide) ?_
                    refine lv_isub hx hb dX8_ruled_82 ?_
                    refine tp_v (.int x_14) (congrArg Value.int (ex_14.symm)) ?_
                    have hPc := hP.sub (ws' := []) [] rfl
                    have hDc := hD.sub (ws' := []) [] (by decide) rfl
                    have hFc := va_free (wc := []) hD hS hA [] rfl
                    refine va_calli (va_runS (As := [.int x_31, .int x_14]) (rest := []) ⟨hx, hb, hml, hown, hts⟩ (c_s_J9_floorMod_7cf53 l dC dI cB cI cJ cZ cP x_31 x_14 (rg_mono hx_14 (by decide) (by decide)) H.size) (va_cwS 2 hts (gd_S (List.mem_of_getElem? (i := 5) rfl) (List.mem_of_getElem? (i := 6) rfl) (List.mem_of_getElem? (i := 7) rfl) (gd_mono k_s_J9_floorMod_7cf53 (fun _ h => List.mem_cons_of_mem _ (List.mem_append_right _ (List.mem_append_right _ (List.mem_append_right _ (List.mem_append_right _ (List.mem_append_left _ h)))))))) rfl rfl rfl (by decide +kernel) ⟨Nat.le_of_ble_eq_true rfl, Nat.le_of_ble_eq_true rfl⟩) ⟨fun a U g mk q => by obtain ⟨q0, q1, qP, qK, qD⟩ := q; exact ⟨q0, q1, qP, va_K.moved (u := U) (U := U.calling g mk a) (Vm.Alike.refl U.vm) qK, qD⟩, fun U hU hW => ⟨rfl, by rw [hU], by rw [hU]; exact hPc, va_K.moved hW.alike hK, hDc.weaken (fun _ _ _ _ => trivial)⟩⟩ rfl rfl hl.1 rfl (lv_room (Nat.le_of_ble_eq_true rfl)) dX8_ruled_83 ⟨Nat.le_of_ble_eq_true rfl, Nat.le_of_ble_eq_true rfl⟩) hS (fun q _ h => hFc q h) hFc (fun r_32 u t H1 locs ht hvm hw hB hz1 hk1 hS => ?_)
                    obtain ⟨hP1, hD1⟩ := hB
                    rw [ht] at hP1
                    obtain ⟨hP, hD⟩ := va_join (wr := [(h0, .inr (8, [.ref h1, .int a0, .ref h2, .ref h17, .ref h27, .ref h31, .ref h44, .ref h51, .ref h53, .ref h55, .ref h62, .ref h69])), (h17, .inr (6, [.ref h18, .ref h19, .ref h20, .ref h21, .ref h22, .ref h23, .int a18, .int a19, .int a20, .int a21])), (h27, .inr (4, [.ref h28, .ref h29, .int a23, .int a24, .int a25, .int a26]))]) (w1 := []) hP hD [] [0, 1, 2] rfl rfl (by decide) (by decide) hk1 hFc hP1 hD1
                    generalize H1 = H at hP hS ⊢
                    replace hP : va_P (dC, dI) vwCl [(h0, .inr (8, [.ref h1, .int a0, .ref h2, .ref h17, .ref h27, .ref h31, .ref h44, .ref h51, .ref h53, .ref h55, .ref h62, .ref h69])), (h17, .inr (6, [.ref h18, .ref h19, .ref h20, .ref h21, .ref h22, .ref h23, .int a18, .int a19, .int a20, .int a21])), (h27, .inr (4, [.ref h28, .ref h29, .int a23, .int a24, .int a25, .int a26]))] H := hP
                    replace hD : va_D A [(h0, .inr (8, [.ref h1, .int a0, .ref h2, .ref h17, .ref h27, .ref h31, .ref h44, .ref h51, .ref h53, .ref h55, .ref h62, .ref h69])), (h17, .inr (6, [.ref h18, .ref h19, .ref h20, .ref h21, .ref h22, .ref h23, .int a18, .int a19, .int a20, .int a21])), (h27, .inr (4, [.ref h28, .ref h29, .int a23, .int a24, .int a25, .int a26]))] := hD
                    have hr_32 : rg (-7) (15) r_32 := hw
                    have hP9 := hP.sub (ws' := [(h0, .inr (8, [.ref h1, .int a0, .ref h2, .ref h17, .ref h27, .ref h31, .ref h44, .ref h51, .ref h53, .ref h55, .ref h62, .ref h69])), (h17, .inr (6, [.ref h18, .ref h19, .ref h20, .ref h21, .ref h22, .ref h23, .int a18, .int a19, .int a20, .int a21])), (h27, .inr (4, [.ref h28, .ref h29, .int a23, .int a24, .int a25, .int a26]))]) [0, 1, 2] rfl
                    have hD9 := hD.sub (ws' := [(h0, .inr (8, [.ref h1, .int a0, .ref h2, .ref h17, .ref h27, .ref h31, .ref h44, .ref h51, .ref h53, .ref h55, .ref h62, .ref h69])), (h17, .inr (6, [.ref h18, .ref h19, .ref h20, .ref h21, .ref h22, .ref h23, .int a18, .int a19, .int a20, .int a21])), (h27, .inr (4, [.ref h28, .ref h29, .int a23, .int a24, .int a25, .int a26]))]) [0, 1, 2] (by decide) rfl
                    exact W.iret (v := r_32) hx hb hr (fun t ht hW => ⟨⟨r_32, (), rfl, (rg_mono hr_32 (by decide) (by decide)), ⟨by rw [ht]; exact hP9, hD9⟩⟩, hS.F ht⟩) hS.2.2 dX8_ruled_86
                  · skip
                    have h_33 : rg (0) (0) x_27 := by have ha := hx_27; have hb_ := (rg_k (x := 0) (c := 0) (by decide)); simp only [rg, fa_lt, fa_le, fa_eq, (by decide : (0 : Int32).toInt = 0)] at ha hb_ c_28; simp only [rg]; omega
                    refine lv_iload_n hx hb dX8_ruled_67 rfl (lv_at hl 2 rfl) ?_
                    refine lv_iload_n hx hb dX8_ruled_68 rfl (lv_at hl 3 rfl) ?_
                    refine lv_iconst (v := 2) hx hb dX8_ruled_69 (by decide) ?_
                    refine lv_idiv hx hb dX8_ruled_70 (by decide) ?_
                    refine lv_topi (fun x_34 ex_34 => ?_)
                    have hx_34 : rg (0) (8) x_34 := by rw [ex_34]; exact rg_mono (rg_div (b := 8) (d := 2) (rg_mono h_26 (by decide) (by decide)) (rg_mono (rg_k (x := 2) (c := 2) (by decide)) (by decide) (by decide))) (by decide) (by decide)
                    refine lv_iadd hx hb dX8_ruled_71 ?_
                    refine lv_topi (fun x_35 ex_35 => ?_)
                    have hx_35 : rg (0) (15) x_35 := by rw [ex_35]; exact rg_mono (rg_add h_17 hx_34 (by decide) (by decide)) (by decide) (by decide)
                    have qx_35 : x_35.toInt = p0.toInt + x_34.toInt := by rw [ex_35]; exact rg_addQ h_17 hx_34 (by decide) (by decide)
                    refine lv_goto (tgt := 80) hx hb dX8_ruled_72 (by decide) ?_
                    refine lv_iload_n hx hb dX8_ruled_80 rfl (lv_at hl 0 rfl) ?_
                    refine lv_iconst (v := 1) hx hb dX8_ruled_81 (by decide) ?_
                    refine lv_isub hx hb dX8_ruled_82 ?_
                    refine tp_v (.int x_14) (congrArg Value.int (ex_14.symm)) ?_
                    have hPc := hP.sub (ws' := []) [] rfl
                    have hDc := hD.sub (ws' := []) [] (by decide) rfl
                    have hFc := va_free (wc := []) hD hS hA [] rfl
                    refine va_calli (va_runS (As := [.int x_35, .int x_14]) (rest := []) ⟨hx, hb, hml, hown, hts⟩ (c_s_J9_floorMod_7cf53 l dC dI cB cI cJ cZ cP x_35 x_14 (rg_mono hx_14 (by decide) (by decide)) H.size) (va_cwS 2 hts (gd_S (List.mem_of_getElem? (i := 5) rfl) (List.mem_of_getElem? (i := 6) rfl) (List.mem_of_getElem? (i := 7) rfl) (gd_mono k_s_J9_floorMod_7cf53 (fun _ h => List.mem_cons_of_mem _ (List.mem_append_right _ (List.mem_append_right _ (List.mem_append_right _ (List.mem_append_right _ (List.mem_append_left _ h)))))))) rfl rfl rfl (by decide +kernel) ⟨Nat.le_of_ble_eq_true rfl, Nat.le_of_ble_eq_true rfl⟩) ⟨fun a U g mk q => by obtain ⟨q0, q1, qP, qK, qD⟩ := q; exact ⟨q0, q1, qP, va_K.moved (u := U) (U := U.calling g mk a) (Vm.Alike.refl U.vm) qK, qD⟩, fun U hU hW => ⟨rfl, by rw [hU], by rw [hU]; exact hPc, va_K.moved hW.alike hK, hDc.weaken (fun _ _ _ _ => trivial)⟩⟩ rfl rfl hl.1 rfl (lv_room (Nat.le_of_ble_eq_true rfl)) dX8_ruled_83 ⟨Nat.le_of_ble_eq_true rfl, Nat.le_of_ble_eq_true rfl⟩) hS (fun q _ h => hFc q h) hFc (fun r_36 u t H1 locs ht hvm hw hB hz1 hk1 hS => ?_)
                    obtain ⟨hP1, hD1⟩ := hB
                    rw [ht] at hP1
                    obtain ⟨hP, hD⟩ := va_join (wr := [(h0, .inr (8, [.ref h1, .int a0, .ref h2, .ref h17, .ref h27, .ref h31, .ref h44, .ref h51, .ref h53, .ref h55, .ref h62, .ref h69])), (h17, .inr (6, [.ref h18, .ref h19, .ref h20, .ref h21, .ref h22, .ref h23, .int a18, .int a19, .int a20, .int a21])), (h27, .inr (4, [.ref h28, .ref h29, .int a23, .int a24, .int a25, .int a26]))]) (w1 := []) hP hD [] [0, 1, 2] rfl rfl (by decide) (by decide) hk1 hFc hP1 hD1
                    generalize H1 = H at hP hS ⊢
                    replace hP : va_P (dC, dI) vwCl [(h0, .inr (8, [.ref h1, .int a0, .ref h2, .ref h17, .ref h27, .ref h31, .ref h44, .ref h51, .ref h53, .ref h55, .ref h62, .ref h69])), (h17, .inr (6, [.ref h18, .ref h19, .ref h20, .ref h21, .ref h22, .ref h23, .int a18, .int a19, .int a20, .int a21])), (h27, .inr (4, [.ref h28, .ref h29, .int a23, .int a24, .int a25, .int a26]))] H := hP
                    replace hD : va_D A [(h0, .inr (8, [.ref h1, .int a0, .ref h2, .ref h17, .ref h27, .ref h31, .ref h44, .ref h51, .ref h53, .ref h55, .ref h62, .ref h69])), (h17, .inr (6, [.ref h18, .ref h19, .ref h20, .ref h21, .ref h22, .ref h23, .int a18, .int a19, .int a20, .int a21])), (h27, .inr (4, [.ref h28, .ref h29, .int a23, .int a24, .int a25, .int a26]))] := hD
                    have hr_36 : rg (-7) (15) r_36 := hw
                    have hP9 := hP.sub (ws' := [(h0, .inr (8, [.ref h1, .int a0, .ref h2, .ref h17, .ref h27, .ref h31, .ref h44, .ref h51, .ref h53, .ref h55, .ref h62, .ref h69])), (h17, .inr (6, [.ref h18, .ref h19, .ref h20, .ref h21, .ref h22, .ref h23, .int a18, .int a19, .int a20, .int a21])), (h27, .inr (4, [.ref h28, .ref h29, .int a23, .int a24, .int a25, .int a26]))]) [0, 1, 2] rfl
                    have hD9 := hD.sub (ws' := [(h0, .inr (8, [.ref h1, .int a0, .ref h2, .ref h17, .ref h27, .ref h31, .ref h44, .ref h51, .ref h53, .ref h55, .ref h62, .ref h69])), (h17, .inr (6, [.ref h18, .ref h19, .ref h20, .ref h21, .ref h22, .ref h23, .int a18, .int a19, .int a20, .int a21])), (h27, .inr (4, [.ref h28, .ref h29, .int a23, .int a24, .int a25, .int a26]))]) [0, 1, 2] (by decide) rfl
                    exact W.iret (v := r_36) hx hb hr (fun t ht hW => ⟨⟨r_36, (), rfl, (rg_mono hr_36 (by decide) (by decide)), ⟨by rw [ht]; exact hP9, hD9⟩⟩, hS.F ht⟩) hS.2.2 dX8_ruled_86
                · skip
                  have h_37 : rg (0) (0) p1 := by have ha := h_24; have hb_ := (rg_k (x := 0) (c := 0) (by decide)); simp only [rg, fa_lt, fa_le, fa_eq, (by decide : (0 : Int32).toInt = 0)] at ha hb_ c_25; simp only [rg]; omega
                  refine lv_iload_n hx hb dX8_ruled_57 rfl (lv_at hl 0 rfl) ?_
                  refine lv_iconst (v := 1) hx hb dX8_ruled_58 (by decide) ?_
                  refine lv_isub hx hb dX8_ruled_59 ?_
                  refine tp_v (.int x_14) (congrArg Value.int (ex_14.symm)) ?_
                  have hP9 := hP.sub (ws' := [(h0, .inr (8, [.ref h1, .int a0, .ref h2, .ref h17, .ref h27, .ref h31, .ref h44, .ref h51, .ref h53, .ref h55, .ref h62, .ref h69])), (h17, .inr (6, [.ref h18, .ref h19, .ref h20, .ref h21, .ref h22, .ref h23, .int a18, .int a19, .int a20, .int a21])), (h27, .inr (4, [.ref h28, .ref h29, .int a23, .int a24, .int a25, .int a26]))]) [0, 1, 2] rfl
                  have hD9 := hD.sub (ws' := [(h0, .inr (8, [.ref h1, .int a0, .ref h2, .ref h17, .ref h27, .ref h31, .ref h44, .ref h51, .ref h53, .ref h55, .ref h62, .ref h69])), (h17, .inr (6, [.ref h18, .ref h19, .ref h20, .ref h21, .ref h22, .ref h23, .int a18, .int a19, .int a20, .int a21])), (h27, .inr (4, [.ref h28, .ref h29, .int a23, .int a24, .int a25, .int a26]))]) [0, 1, 2] (by decide) rfl
                  exact W.iret (v := x_14) hx hb hr (fun t ht hW => ⟨⟨x_14, (), rfl, (rg_mono hx_14 (by decide) (by decide)), ⟨by rw [ht]; exact hP9, hD9⟩⟩, hS.F ht⟩) hS.2.2 dX8_ruled_60
              · skip
                have h_38 : rg (3) (2147483647) p1 := by have ha := h_22; have hb_ := h_6; simp only [rg, fa_lt, fa_le, fa_eq] at ha hb_ c_23; simp only [rg]; omega
                refine lv_iconst (v := (-1)) hx hb dX8_ruled_51 (by decide) ?_
                have hP9 := hP.sub (ws' := [(h0, .inr (8, [.ref h1, .int a0, .ref h2, .ref h17, .ref h27, .ref h31, .ref h44, .ref h51, .ref h53, .ref h55, .ref h62, .ref h69])), (h17, .inr (6, [.ref h18, .ref h19, .ref h20, .ref h21, .ref h22, .ref h23, .int a18, .int a19, .int a20, .int a21])), (h27, .inr (4, [.ref h28, .ref h29, .int a23, .int a24, .int a25, .int a26]))]) [0, 1, 2] rfl
                have hD9 := hD.sub (ws' := [(h0, .inr (8, [.ref h1, .int a0, .ref h2, .ref h17, .ref h27, .ref h31, .ref h44, .ref h51, .ref h53, .ref h55, .ref h62, .ref h69])), (h17, .inr (6, [.ref h18, .ref h19, .ref h20, .ref h21, .ref h22, .ref h23, .int a18, .int a19, .int a20, .int a21])), (h27, .inr (4, [.ref h28, .ref h29, .int a23, .int a24, .int a25, .int a26]))]) [0, 1, 2] (by decide) rfl
                exact W.iret (v := (-1)) hx hb hr (fun t ht hW => ⟨⟨(-1), (), rfl, (rg_mono (rg_k (x := (-1)) (c := -1) (by decide)) (by decide) (by decide)), ⟨by rw [ht]; exact hP9, hD9⟩⟩, hS.F ht⟩) hS.2.2 dX8_ruled_52
