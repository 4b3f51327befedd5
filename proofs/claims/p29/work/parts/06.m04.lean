def v_s_X9_isSign : List Cond := Cond.code yX9_isSign cX9_isSign 1 (some .boolean) :: ([] ++ ([]))
theorem k_s_X9_isSign : GoodIn lw_tbl v_s_X9_isSign := gd_c (List.mem_of_getElem? (i := 1490) (by decide +kernel)) rfl (goodIn_app (gd_nil) (gd_nil))
set_option maxHeartbeats 2000000 in
set_option maxRecDepth 100000 in
theorem c_s_X9_isSign (l : Launch) (dC : Nat → ClassId) (dI : Nat → Nat → Nat) (cB cI cJ cZ cP : ClassId) (p0 : Int32) (sz : Nat) : Met l yX9_isSign v_s_X9_isSign ({ frames := 0, cells := 0, slots := 0, locals := 0 }) (va_Pc [.int p0] (fun U => U.heap.size = sz ∧ va_P (dC, dI) vwCl [] U.heap ∧ va_K (dC, dI) vwCl (ty5 cB cI cJ cZ cP) U ∧ va_D (fun _ => True) [])) (va_Qi (fun (r : Int32) (u9 : Unit) => rg (0) (1) r) (fun u9 t => va_P (dC, dI) vwCl [] t.heap ∧ va_D (va_A [] sz) []) (va_A [] sz)) 0 0 (va_A [] sz) := by
  refine Met.ofW (cc := cX9_isSign) (maxL := 1) (ret := (some .boolean)) (by decide) rfl ?_
  intro p e s m args below meth c s₁ B hml hv
  obtain ⟨rfl, hsz, hP, hK, hD0⟩ := hv
  have hx := B.exec
  have hb := B.bytes
  have hr := B.returns
  have hts := atoms_spec (ws := v_s_X9_isSign) B.pre
  have hown : s.vm.findClass RX9 = some m.cls := findClass_of_methodNamed B.named
  have hlocks := B.notSynchronized
  subst hsz
  have hD := hD0.self (sz := s.heap.size)
  generalize hAe : va_A [] s.heap.size = A at hD ⊢
  have hA : ∀ q : Nat, s.heap.size ≤ q → A q := fun q h => by rw [← hAe]; exact Or.inr h
  have hP : va_P (dC, dI) vwCl [] s.heap := hP
  have hl := lv_entry ([.int p0]) (n := 1) (Nat.le_of_ble_eq_true rfl)
  rw [lg_entry_eq]
  generalize (lg_sl ([.int p0]) ++ List.replicate (1 - (lg_sl ([.int p0])).length) Slot.unset).toArray = ls at hl ⊢
  have hl : lv_has ls 1 [(0, .int p0)] := hl
  refine W_gen (A := A) hP (fun H locs hP hS => ?_)
  refine lv_iload_n hx hb dX9_isSign_0 rfl (lv_at hl 0 rfl) ?_
  refine lv_bipush (v := 59) hx hb dX9_isSign_1 (by decide) ?_
  refine lv_icmp_eq (tgt := 60) hx hb dX9_isSign_3 (by decide) (fun c_1 => ?_) (fun c_1 => ?_)
  · skip
    have h_2 : rg (59) (59) p0 := by have ha := (rg_any p0); have hb_ := (rg_k (x := 59) (c := 59) (by decide)); simp only [rg, fa_lt, fa_le, fa_eq, (by decide : (59 : Int32).toInt = 59)] at ha hb_ c_1; simp only [rg]; omega
    refine lv_iconst (v := 1) hx hb dX9_isSign_60 (by decide) ?_
    refine lv_goto (tgt := 65) hx hb dX9_isSign_61 (by decide) ?_
    have hP9 := hP.sub (ws' := []) [] rfl
    have hD9 := hD.sub (ws' := []) [] (by decide) rfl
    exact W.zret (v := 1) hx hb hr (rfl) (fun t ht hW => ⟨⟨1, (), rfl, (rg_mono (rg_k (x := 1) (c := 1) (by decide)) (by decide) (by decide)), ⟨by rw [ht]; exact hP9, hD9⟩⟩, hS.F ht⟩) hS.2.2 dX9_isSign_65
  · skip
    refine lv_iload_n hx hb dX9_isSign_6 rfl (lv_at hl 0 rfl) ?_
    refine lv_bipush (v := 40) hx hb dX9_isSign_7 (by decide) ?_
    refine lv_icmp_eq (tgt := 60) hx hb dX9_isSign_9 (by decide) (fun c_3 => ?_) (fun c_3 => ?_)
    · skip
      have h_4 : rg (40) (40) p0 := by have ha := (rg_any p0); have hb_ := (rg_k (x := 40) (c := 40) (by decide)); simp only [rg, fa_lt, fa_le, fa_eq, (by decide : (40 : Int32).toInt = 40)] at ha hb_ c_3; simp only [rg]; omega
      refine lv_iconst (v := 1) hx hb dX9_isSign_60 (by decide) ?_
      refine lv_goto (tgt := 65) hx hb dX9_isSign_61 (by decide) ?_
      have hP9 := hP.sub (ws' := []) [] rfl
      have hD9 := hD.sub (ws' := []) [] (by decide) rfl
      exact W.zret (v := 1) hx hb hr (rfl) (fun t ht hW => ⟨⟨1, (), rfl, (rg_mono (rg_k (x := 1) (c := 1) (by decide)) (by decide) (by decide)), ⟨by rw [ht]; exact hP9, hD9⟩⟩, hS.F ht⟩) hS.2.2 dX9_isSign_65
    · skip
      refine lv_iload_n hx hb dX9_isSign_12 rfl (lv_at hl 0 rfl) ?_
      refine lv_bipush (v := 41) hx hb dX9_isSign_13 (by decide) ?_
      refine lv_icmp_eq (tgt := 60) hx hb dX9_isSign_15 (by decide) (fun c_5 => ?_) (fun c_5 => ?_)
      · skip
        have h_6 : rg (41) (41) p0 := by have ha := (rg_any p0); have hb_ := (rg_k (x := 41) (c := 41) (by decide)); simp only [rg, fa_lt, fa_le, fa_eq, (by decide : (41 : Int32).toInt = 41)] at ha hb_ c_5; simp only [rg]; omega
        refine lv_iconst (v := 1) hx hb dX9_isSign_60 (by decide) ?_
        refine lv_goto (tgt := 65) hx hb dX9_isSign_61 (by decide) ?_
        have hP9 := hP.sub (ws' := []) [] rfl
        have hD9 := hD.sub (ws' := []) [] (by decide) rfl
        exact W.zret (v := 1) hx hb hr (rfl) (fun t ht hW => ⟨⟨1, (), rfl, (rg_mono (rg_k (x := 1) (c := 1) (by decide)) (by decide) (by decide)), ⟨by rw [ht]; exact hP9, hD9⟩⟩, hS.F ht⟩) hS.2.2 dX9_isSign_65
      · skip
        refine lv_iload_n hx hb dX9_isSign_18 rfl (lv_at hl 0 rfl) ?_
        refine lv_bipush (v := 60) hx hb dX9_isSign_19 (by decide) ?_
        refine lv_icmp_eq (tgt := 60) hx hb dX9_isSign_21 (by decide) (fun c_7 => ?_) (fun c_7 => ?_)
        · skip
          have h_8 : rg (60) (60) p0 := by have ha := (rg_any p0); have hb_ := (rg_k (x := 60) (c := 60) (by decide)); simp only [rg, fa_lt, fa_le, fa_eq, (by decide : (60 : Int32).toInt = 60)] at ha hb_ c_7; simp only [rg]; omega
          refine lv_iconst (v := 1) hx hb dX9_isSign_60 (by decide) ?_
          refine lv_goto (tgt := 65) hx hb dX9_isSign_61 (by decide) ?_
          have hP9 := hP.sub (ws' := []) [] rfl
          have hD9 := hD.sub (ws' := []) [] (by decide) rfl
          exact W.zret (v := 1) hx hb hr (rfl) (fun t ht hW => ⟨⟨1, (), rfl, (rg_mono (rg_k (x := 1) (c := 1) (by decide)) (by decide) (by decide)), ⟨by rw [ht]; exact hP9, hD9⟩⟩, hS.F ht⟩) hS.2.2 dX9_isSign_65
        · skip
          refine lv_iload_n hx hb dX9_isSign_24 rfl (lv_at hl 0 rfl) ?_
          refine lv_bipush (v := 62) hx hb dX9_isSign_25 (by decide) ?_
          refine lv_icmp_eq (tgt := 60) hx hb dX9_isSign_27 (by decide) (fun c_9 => ?_) (fun c_9 => ?_)
          · skip
            have h_10 : rg (62) (62) p0 := by have ha := (rg_any p0); have hb_ := (rg_k (x := 62) (c := 62) (by decide)); simp only [rg, fa_lt, fa_le, fa_eq, (by decide : (62 : Int32).toInt = 62)] at ha hb_ c_9; simp only [rg]; omega
            refine lv_iconst (v := 1) hx hb dX9_isSign_60 (by decide) ?_
            refine lv_goto (tgt := 65) hx hb dX9_isSign_61 (by decide) ?_
            have hP9 := hP.sub (ws' := []) [] rfl
            have hD9 := hD.sub (ws' := []) [] (by decide) rfl
            exact W.zret (v := 1) hx hb hr (rfl) (fun t ht hW => ⟨⟨1, (), rfl, (rg_mono (rg_k (x := 1) (c := 1) (by decide)) (by decide) (by decide)), ⟨by rw [ht]; exact hP9, hD9⟩⟩, hS.F ht⟩) hS.2.2 dX9_isSign_65
          · skip
            refine lv_iload_n hx hb dX9_isSign_30 rfl (lv_at hl 0 rfl) ?_
            refine lv_bipush (v := 61) hx hb dX9_isSign_31 (by decide) ?_
            refine lv_icmp_eq (tgt := 60) hx hb dX9_isSign_33 (by decide) (fun c_11 => ?_) (fun c_11 => ?_)
            · skip
              have h_12 : rg (61) (61) p0 := by have ha := (rg_any p0); have hb_ := (rg_k (x := 61) (c := 61) (by decide)); simp only [rg, fa_lt, fa_le, fa_eq, (by decide : (61 : Int32).toInt = 61)] at ha hb_ c_11; simp only [rg]; omega
              refine lv_iconst (v := 1) hx hb dX9_isSign_60 (by decide) ?_
              refine lv_goto (tgt := 65) hx hb dX9_isSign_61 (by decide) ?_
              have hP9 := hP.sub (ws' := []) [] rfl
              have hD9 := hD.sub (ws' := []) [] (by decide) rfl
              exact W.zret (v := 1) hx hb hr (rfl) (fun t ht hW => ⟨⟨1, (), rfl, (rg_mono (rg_k (x := 1) (c := 1) (by decide)) (by decide) (by decide)), ⟨by rw [ht]; exact hP9, hD9⟩⟩, hS.F ht⟩) hS.2.2 dX9_isSign_65
            · skip
              refine lv_iload_n hx hb dX9_isSign_36 rfl (lv_at hl 0 rfl) ?_
              refine lv_bipush (v := 43) hx hb dX9_isSign_37 (by decide) ?_
              refine lv_icmp_eq (tgt := 60) hx hb dX9_isSign_39 (by decide) (fun c_13 => ?_) (fun c_13 => ?_)
              · skip
                have h_14 : rg (43) (43) p0 := by have ha := (rg_any p0); have hb_ := (rg_k (x := 43) (c := 43) (by decide)); simp only [rg, fa_lt, fa_le, fa_eq, (by decide : (43 : Int32).toInt = 43)] at ha hb_ c_13; simp only [rg]; omega
                refine lv_iconst (v := 1) hx hb dX9_isSign_60 (by decide) ?_
                refine lv_goto (tgt := 65) hx hb dX9_isSign_61 (by decide) ?_
                have hP9 := hP.sub (ws' := []) [] rfl
                have hD9 := hD.sub (ws' := []) [] (by decide) rfl
                exact W.zret (v := 1) hx hb hr (rfl) (fun t ht hW => ⟨⟨1, (), rfl, (rg_mono (rg_k (x := 1) (c := 1) (by decide)) (by decide) (by decide)), ⟨by rw [ht]; exact hP9, hD9⟩⟩, hS.F ht⟩) hS.2.2 dX9_isSign_65
              · skip
                refine lv_iload_n hx hb dX9_isSign_42 rfl (lv_at hl 0 rfl) ?_
                refine lv_bipush (v := 45) hx hb dX9_isSign_43 (by decide) ?_
                refine lv_icmp_eq (tgt := 60) hx hb dX9_isSign_45 (by decide) (fun c_15 => ?_) (fun c_15 => ?_)
                · skip
                  have h_16 : rg (45) (45) p0 := by have ha := (rg_any p0); have hb_ := (rg_k (x := 45) (c := 45) (by decide)); simp only [rg, fa_lt, fa_le, fa_eq, (by decide : (45 : Int32).toInt = 45)] at ha hb_ c_15; simp only [rg]; omega
                  refine lv_iconst (v := 1) hx hb dX9_isSign_60 (by decide) ?_
                  refine lv_goto (tgt := 65) hx hb dX9_isSign_61 (by decide) ?_
                  have hP9 := hP.sub (ws' := []) [] rfl
                  have hD9 := hD.sub (ws' := []) [] (by decide) rfl
                  exact W.zret (v := 1) hx hb hr (rfl) (fun t ht hW => ⟨⟨1, (), rfl, (rg_mono (rg_k (x := 1) (c := 1) (by decide)) (by decide) (by decide)), ⟨by rw [ht]; exact hP9, hD9⟩⟩, hS.F ht⟩) hS.2.2 dX9_isSign_65
                · skip
                  refine lv_iload_n hx hb dX9_isSign_48 rfl (lv_at hl 0 rfl) ?_
                  refine lv_bipush (v := 42) hx hb dX9_isSign_49 (by decide) ?_
                  refine lv_icmp_eq (tgt := 60) hx hb dX9_isSign_51 (by decide) (fun c_17 => ?_) (fun c_17 => ?_)
                  · skip
                    have h_18 : rg (42) (42) p0 := by have ha := (rg_any p0); have hb_ := (rg_k (x := 42) (c := 42) (by decide)); simp only [rg, fa_lt, fa_le, fa_eq, (by decide : (42 : Int32).toInt = 42)] at ha hb_ c_17; simp only [rg]; omega
                    refine lv_iconst (v := 1) hx hb dX9_isSign_60 (by decide) ?_
                    refine lv_goto (tgt := 65) hx hb dX9_isSign_61 (by decide) ?_
                    have hP9 := hP.sub (ws' := []) [] rfl
                    have hD9 := hD.sub (ws' := []) [] (by decide) rfl
                    exact W.zret (v := 1) hx hb hr (rfl) (fun t ht hW => ⟨⟨1, (), rfl, (rg_mono (rg_k (x := 1) (c := 1) (by decide)) (by decide) (by decide)), ⟨by rw [ht]; exact hP9, hD9⟩⟩, hS.F ht⟩) hS.2.2 dX9_isSign_65
                  · skip
                    refine lv_iload_n hx hb dX9_isSign_54 rfl (lv_at hl 0 rfl) ?_
                    refine lv_bipush (v := 47) hx hb dX9_isSign_55 (by decide) ?_
                    refine lv_icmp_ne (tgt := 64) hx hb dX9_isSign_57 (by decide) (fun c_19 => ?_) (fun c_19 => ?_)
                    · skip
                      refine lv_iconst (v := 0) hx hb dX9_isSign_64 (by decide) ?_
                      have hP9 := hP.sub (ws' := []) [] rfl
                      have hD9 := hD.sub (ws' := []) [] (by decide) rfl
                      exact W.zret (v := 0) hx hb hr (rfl) (fun t ht hW => ⟨⟨0, (), rfl, (rg_mono (rg_k (x := 0) (c := 0) (by decide)) (by decide) (by decide)), ⟨by rw [ht]; exact hP9, hD9⟩⟩, hS.F ht⟩) hS.2.2 dX9_isSign_65
                    · skip
                      have h_20 : rg (47) (47) p0 := by have ha := (rg_any p0); have hb_ := (rg_k (x := 47) (c := 47) (by decide)); simp only [rg, fa_lt, fa_le, fa_eq, (by decide : (47 : Int32).toInt = 47)] at ha hb_ c_19; simp only [rg]; omega
                      refine lv_iconst (v := 1) hx hb dX9_isSign_60 (by decide) ?_
                      refine lv_goto (tgt := 65) hx hb dX9_isSign_61 (by decide) ?_
                      have hP9 := hP.sub (ws' := []) [] rfl
                      have hD9 := hD.sub (ws' := []) [] (by decide) rfl
                      exact W.zret (v := 1) hx hb hr (rfl) (fun t ht hW => ⟨⟨1, (), rfl, (rg_mono (rg_k (x := 1) (c := 1) (by decide)) (by decide) (by decide)), ⟨by rw [ht]; exact hP9, hD9⟩⟩, hS.F ht⟩) hS.2.2 dX9_isSign_65
def v_s_X9_isKept : List Cond := Cond.code yX9_isKept cX9_isKept 3 (some .boolean) :: ([Cond.constantLong RX9 161 (448546567013), Cond.constantLong RX9 163 (131277443786868), Cond.constantLong RX9 165 (422607680115), Cond.constantLong RX9 167 (31935733760681324), Cond.constantLong RX9 169 (2003399528), Cond.constantLong RX9 171 (512970880104), Cond.constantLong RX9 173 (126943972648308), Cond.constantLong RX9 175 (7102839), Cond.constantLong RX9 177 (465624852596), Cond.constantLong RX9 179 (448377484921), Cond.constantLong RX9 181 (495690081125), Cond.constantLong RX9 183 (2036687218), Cond.constantLong RX9 185 (6385252), Cond.constantLong RX9 187 (28530), Cond.constantLong RX9 189 (7237492)] ++ ([]))
theorem k_s_X9_isKept : GoodIn lw_tbl v_s_X9_isKept := gd_c (List.mem_of_getElem? (i := 1469) (by decide +kernel)) rfl (goodIn_app (gd_c (List.mem_of_getElem? (i := 1470) (by decide +kernel)) rfl (gd_c (List.mem_of_getElem? (i := 1471) (by decide +kernel)) rfl (gd_c (List.mem_of_getElem? (i := 1472) (by decide +kernel)) rfl (gd_c (List.mem_of_getElem? (i := 1473) (by decide +kernel)) rfl (gd_c (List.mem_of_getElem? (i := 1474) (by decide +kernel)) rfl (gd_c (List.mem_of_getElem? (i := 1475) (by decide +kernel)) rfl (gd_c (List.mem_of_getElem? (i := 1476) (by decide +kernel)) rfl (gd_c (List.mem_of_getElem? (i := 1477) (by decide +kernel)) rfl (gd_c (List.mem_of_getElem? (i := 1478) (by decide +kernel)) rfl (gd_c (List.mem_of_getElem? (i := 1479) (by decide +kernel)) rfl (gd_c (List.mem_of_getElem? (i := 1480) (by decide +kernel)) rfl (gd_c (List.mem_of_getElem? (i := 1481) (by decide +kernel)) rfl (gd_c (List.mem_of_getElem? (i := 1482) (by decide +kernel)) rfl (gd_c (List.mem_of_getElem? (i := 1483) (by decide +kernel)) rfl (gd_c (List.mem_of_getElem? (i := 1484) (by decide +kernel)) rfl (gd_nil)))))))))))))))) (gd_nil))
set_option maxHeartbeats 2000000 in
set_option maxRecDepth 100000 in
theorem c_s_X9_isKept (l : Launch) (dC : Nat → ClassId) (dI : Nat → Nat → Nat) (cB cI cJ cZ cP : ClassId) (y0 : Int64) (sz : Nat) : Met l yX9_isKept v_s_X9_isKept ({ frames := 0, cells := 0, slots := 0, locals := 0 }) (va_Pc [.long y0] (fun U => U.heap.size = sz ∧ va_P (dC, dI) vwCl [] U.heap ∧ va_K (dC, dI) vwCl (ty5 cB cI cJ cZ cP) U ∧ va_D (fun _ => True) [])) (va_Qi (fun (r : Int32) (u9 : Unit) => rg (0) (1) r) (fun u9 t => va_P (dC, dI) vwCl [] t.heap ∧ va_D (va_A [] sz) []) (va_A [] sz)) 0 0 (va_A [] sz) := by
  refine Met.ofW (cc := cX9_isKept) (maxL := 3) (ret := (some .boolean)) (by decide) rfl ?_
  intro p e s m args below meth c s₁ B hml hv
  obtain ⟨rfl, hsz, hP, hK, hD0⟩ := hv
  have hx := B.exec
  have hb := B.bytes
  have hr := B.returns
  have hts := atoms_spec (ws := v_s_X9_isKept) B.pre
  have hown : s.vm.findClass RX9 = some m.cls := findClass_of_methodNamed B.named
  have hlocks := B.notSynchronized
  subst hsz
  have hD := hD0.self (sz := s.heap.size)
  generalize hAe : va_A [] s.heap.size = A at hD ⊢
  have hA : ∀ q : Nat, s.heap.size ≤ q → A q := fun q h => by rw [← hAe]; exact Or.inr h
  have hP : va_P (dC, dI) vwCl [] s.heap := hP
  have hl := lv_entry ([.long y0]) (n := 3) (Nat.le_of_ble_eq_true rfl)
  rw [lg_entry_eq]
  generalize (lg_sl ([.long y0]) ++ List.replicate (3 - (lg_sl ([.long y0])).length) Slot.unset).toArray = ls at hl ⊢
  have hl : lv_has ls 3 [(0, .long y0)] := hl
  refine W_gen (A := A) hP (fun H locs hP hS => ?_)
  refine lv_lload_n hx hb dX9_isKept_0 rfl (lv_at hl 0 rfl) ?_
  refine lv_ldc2 (v := 448546567013) hx hb hown (hts (.constantLong RX9 161 (448546567013)) (List.mem_of_getElem? (i := 1) rfl)) dX9_isKept_1 ?_
  refine W.lcmp hx hb dX9_isKept_4 ?_
  refine lv_topi (fun x_1 ex_1 => ?_)
  refine lv_if_eq (tgt := 64) hx hb dX9_isKept_5 (by decide) (fun c_2 => ?_) (fun c_2 => ?_)
  · skip
    have h_3 : rg (0) (0) x_1 := by have ha := (rg_any x_1); have hb_ := (rg_k (x := 0) (c := 0) (by decide)); simp only [rg, fa_lt, fa_le, fa_eq, (by decide : (0 : Int32).toInt = 0)] at ha hb_ c_2; simp only [rg]; omega
    refine lv_iconst (v := 1) hx hb dX9_isKept_64 (by decide) ?_
    refine lv_goto (tgt := 69) hx hb dX9_isKept_65 (by decide) ?_
    refine lv_istore_n (lv' := [(2, .int 1), (0, .long y0)]) hx hb dX9_isKept_69 rfl hl (by decide) rfl (fun ls hl => ?_)
    refine lv_iload_n hx hb dX9_isKept_70 rfl (lv_at hl 0 rfl) ?_
    refine lv_if_ne (tgt := 130) hx hb dX9_isKept_71 (by decide) (fun _ => ?_) (fun cz => absurd cz (by decide))
    refine lv_iconst (v := 1) hx hb dX9_isKept_130 (by decide) ?_
    refine lv_goto (tgt := 135) hx hb dX9_isKept_131 (by decide) ?_
    have hP9 := hP.sub (ws' := []) [] rfl
    have hD9 := hD.sub (ws' := []) [] (by decide) rfl
    exact W.zret (v := 1) hx hb hr (rfl) (fun t ht hW => ⟨⟨1, (), rfl, (rg_mono (rg_k (x := 1) (c := 1) (by decide)) (by decide) (by decide)), ⟨by rw [ht]; exact hP9, hD9⟩⟩, hS.F ht⟩) hS.2.2 dX9_isKept_135
  · skip
    refine lv_lload_n hx hb dX9_isKept_8 rfl (lv_at hl 0 rfl) ?_
    refine lv_ldc2 (v := 131277443786868) hx hb hown (hts (.constantLong RX9 163 (131277443786868)) (List.mem_of_getElem? (i := 2) rfl)) dX9_isKept_9 ?_
    refine W.lcmp hx hb dX9_isKept_12 ?_
    refine lv_topi (fun x_4 ex_4 => ?_)
    refine lv_if_eq (tgt := 64) hx hb dX9_isKept_13 (by decide) (fun c_5 => ?_) (fun c_5 => ?_)
    · skip
      have h_6 : rg (0) (0) x_4 := by have ha := (rg_any x_4); have hb_ := (rg_k (x := 0) (c := 0) (by decide)); simp only [rg, fa_lt, fa_le, fa_eq, (by decide : (0 : Int32).toInt = 0)] at ha hb_ c_5; simp only [rg]; omega
      refine lv_iconst (v := 1) hx hb dX9_isKept_64 (by decide) ?_
      refine lv_goto (tgt := 69) hx hb dX9_isKept_65 (by decide) ?_
      refine lv_istore_n (lv' := [(2, .int 1), (0, .long y0)]) hx hb dX9_isKept_69 rfl hl (by decide) rfl (fun ls hl => ?_)
      refine lv_iload_n hx hb dX9_isKept_70 rfl (lv_at hl 0 rfl) ?_
      refine lv_if_ne (tgt := 130) hx hb dX9_isKept_71 (by decide) (fun _ => ?_) (fun cz => absurd cz (by decide))
      refine lv_iconst (v := 1) hx hb dX9_isKept_130 (by decide) ?_
      refine lv_goto (tgt := 135) hx hb dX9_isKept_131 (by decide) ?_
      have hP9 := hP.sub (ws' := []) [] rfl
      have hD9 := hD.sub (ws' := []) [] (by decide) rfl
      exact W.zret (v := 1) hx hb hr (rfl) (fun t ht hW => ⟨⟨1, (), rfl, (rg_mono (rg_k (x := 1) (c := 1) (by decide)) (by decide) (by decide)), ⟨by rw [ht]; exact hP9, hD9⟩⟩, hS.F ht⟩) hS.2.2 dX9_isKept_135
    · skip
      refine lv_lload_n hx hb dX9_isKept_16 rfl (lv_at hl 0 rfl) ?_
      refine lv_ldc2 (v := 422607680115) hx hb hown (hts (.constantLong RX9 165 (422607680115)) (List.mem_of_getElem? (i := 3) rfl)) dX9_isKept_17 ?_
      refine W.lcmp hx hb dX9_isKept_20 ?_
      refine lv_topi (fun x_7 ex_7 => ?_)
      refine lv_if_eq (tgt := 64) hx hb dX9_isKept_21 (by decide) (fun c_8 => ?_) (fun c_8 => ?_)
      · skip
        have h_9 : rg (0) (0) x_7 := by have ha := (rg_any x_7); have hb_ := (rg_k (x := 0) (c := 0) (by decide)); simp only [rg, fa_lt, fa_le, fa_eq, (by decide : (0 : Int32).toInt = 0)] at ha hb_ c_8; simp only [rg]; omega
        refine lv_iconst (v := 1) hx hb dX9_isKept_64 (by decide) ?_
        refine lv_goto (tgt := 69) hx hb dX9_isKept_65 (by decide) ?_
        refine lv_istore_n (lv' := [(2, .int 1), (0, .long y0)]) hx hb dX9_isKept_69 rfl hl (by decide) rfl (fun ls hl => ?_)
        refine lv_iload_n hx hb dX9_isKept_70 rfl (lv_at hl 0 rfl) ?_
        refine lv_if_ne (tgt := 130) hx hb dX9_isKept_71 (by decide) (fun _ => ?_) (fun cz => absurd cz (by decide))
        refine lv_iconst (v := 1) hx hb dX9_isKept_130 (by decide) ?_
        refine lv_goto (tgt := 135) hx hb dX9_isKept_131 (by decide) ?_
        have hP9 := hP.sub (ws' := []) [] rfl
        have hD9 := hD.sub (ws' := []) [] (by decide) rfl
        exact W.zret (v := 1) hx hb hr (rfl) (fun t ht hW => ⟨⟨1, (), rfl, (rg_mono (rg_k (x := 1) (c := 1) (by decide)) (by decide) (by decide)), ⟨by rw [ht]; exact hP9, hD9⟩⟩, hS.F ht⟩) hS.2.2 dX9_isKept_135
      · skip
        refine lv_lload_n hx hb dX9_isKept_24 rfl (lv_at hl 0 rfl) ?_
        refine lv_ldc2 (v := 31935733760681324) hx hb hown (hts (.constantLong RX9 167 (31935733760681324)) (List.mem_of_getElem? (i := 4) rfl)) dX9_isKept_25 ?_
        refine W.lcmp hx hb dX9_isKept_28 ?_
        refine lv_topi (fun x_10 ex_10 => ?_)
        refine lv_if_eq (tgt := 64) hx hb dX9_isKept_29 (by decide) (fun c_11 => ?_) (fun c_11 => ?_)
        · skip
          have h_12 : rg (0) (0) x_10 := by have ha := (rg_any x_10); have hb_ := (rg_k (x := 0) (c := 0) (by decide)); simp only [rg, fa_lt, fa_le, fa_eq, (by decide : (0 : Int32).toInt = 0)] at ha hb_ c_11; simp only [rg]; omega
          refine lv_iconst (v := 1) hx hb dX9_isKept_64 (by decide) ?_
          refine lv_goto (tgt := 69) hx hb dX9_isKept_65 (by decide) ?_
          refine lv_istore_n (lv' := [(2, .int 1), (0, .long y0)]) hx hb dX9_isKept_69 rfl hl (by decide) rfl (fun ls hl => ?_)
          refine lv_iload_n hx hb dX9_isKept_70 rfl (lv_at hl 0 rfl) ?_
          refine lv_if_ne (tgt := 130) hx hb dX9_isKept_71 (by decide) (fun _ => ?_) (fun cz => absurd cz (by decide))
          refine lv_iconst (v := 1) hx hb dX9_isKept_130 (by decide) ?_
          refine lv_goto (tgt := 135) hx hb dX9_isKept_131 (by decide) ?_
          have hP9 := hP.sub (ws' := []) [] rfl
          have hD9 := hD.sub (ws' := []) [] (by decide) rfl
          exact W.zret (v := 1) hx hb hr (rfl) (fun t ht hW => ⟨⟨1, (), rfl, (rg_mono (rg_k (x := 1) (c := 1) (by decide)) (by decide) (by decide)), ⟨by rw [ht]; exact hP9, hD9⟩⟩, hS.F ht⟩) hS.2.2 dX9_isKept_135
        · skip
          refine lv_lload_n hx hb dX9_isKept_32 rfl (lv_at hl 0 rfl) ?_
          refine lv_ldc2 (v := 2003399528) hx hb hown (hts (.constantLong RX9 169 (2003399528)) (List.mem_of_getElem? (i := 5) rfl)) dX9_isKept_33 ?_
          refine W.lcmp hx hb dX9_isKept_36 ?_
          refine lv_topi (fun x_13 ex_13 => ?_)
          refine lv_if_eq (tgt := 64) hx hb dX9_isKept_37 (by decide) (fun c_14 => ?_) (fun c_14 => ?_)
          · skip
            have h_15 : rg (0) (0) x_13 := by have ha := (rg_any x_13); have hb_ := (rg_k (x := 0) (c := 0) (by decide)); simp only [rg, fa_lt, fa_le, fa_eq, (by decide : (0 : Int32).toInt = 0)] at ha hb_ c_14; simp only [rg]; omega
            refine lv_iconst (v := 1) hx hb dX9_isKept_64 (by decide) ?_
            refine lv_goto (tgt := 69) hx hb dX9_isKept_65 (by decide) ?_
            refine lv_istore_n (lv' := [(2, .int 1), (0, .long y0)]) hx hb dX9_isKept_69 rfl hl (by decide) rfl (fun ls hl => ?_)
            refine lv_iload_n hx hb dX9_isKept_70 rfl (lv_at hl 0 rfl) ?_
            refine lv_if_ne (tgt := 130) hx hb dX9_isKept_71 (by decide) (fun _ => ?_) (fun cz => absurd cz (by decide))
            refine lv_iconst (v := 1) hx hb dX9_isKept_130 (by decide) ?_
            refine lv_goto (tgt := 135) hx hb dX9_isKept_131 (by decide) ?_
            have hP9 := hP.sub (ws' := []) [] rfl
            have hD9 := hD.sub (ws' := []) [] (by decide) rfl
            exact W.zret (v := 1) hx hb hr (rfl) (fun t ht hW => ⟨⟨1, (), rfl, (rg_mono (rg_k (x := 1) (c := 1) (by decide)) (by decide) (by decide)), ⟨by rw [ht]; exact hP9, hD9⟩⟩, hS.F ht⟩) hS.2.2 dX9_isKept_135
          · skip
            refine lv_lload_n hx hb dX9_isKept_40 rfl (lv_at hl 0 rfl) ?_
            refine lv_ldc2 (v := 512970880104) hx hb hown (hts (.constantLong RX9 171 (512970880104)) (List.mem_of_getElem? (i := 6) rfl)) dX9_isKept_41 ?_
            refine W.lcmp hx hb dX9_isKept_44 ?_
            refine lv_topi (fun x_16 ex_16 => ?_)
            refine lv_if_eq (tgt := 64) hx hb dX9_isKept_45 (by decide) (fun c_17 => ?_) (fun c_17 => ?_)
            · skip
              have h_18 : rg (0) (0) x_16 := by have ha := (rg_any x_16); have hb_ := (rg_k (x := 0) (c := 0) (by decide)); simp only [rg, fa_lt, fa_le, fa_eq, (by decide : (0 : Int32).toInt = 0)] at ha hb_ c_17; simp only [rg]; omega
              refine lv_iconst (v := 1) hx hb dX9_isKept_64 (by decide) ?_
              refine lv_goto (tgt := 69) hx hb dX9_isKept_65 (by decide) ?_
              refine lv_istore_n (lv' := [(2, .int 1), (0, .long y0)]) hx hb dX9_isKept_69 rfl hl (by decide) rfl (fun ls hl => ?_)
              refine lv_iload_n hx hb dX9_isKept_70 rfl (lv_at hl 0 rfl) ?_
              refine lv_if_ne (tgt := 130) hx hb dX9_isKept_71 (by decide) (fun _ => ?_) (fun cz => absurd cz (by decide))
              refine lv_iconst (v := 1) hx hb dX9_isKept_130 (by decide) ?_
              refine lv_goto (tgt := 135) hx hb dX9_isKept_131 (by decide) ?_
              have hP9 := hP.sub (ws' := []) [] rfl
              have hD9 := hD.sub (ws' := []) [] (by decide) rfl
              exact W.zret (v := 1) hx hb hr (rfl) (fun t ht hW => ⟨⟨1, (), rfl, (rg_mono (rg_k (x := 1) (c := 1) (by decide)) (by decide) (by decide)), ⟨by rw [ht]; exact hP9, hD9⟩⟩, hS.F ht⟩) hS.2.2 dX9_isKept_135
            · skip
              refine lv_lload_n hx hb dX9_isKept_48 rfl (lv_at hl 0 rfl) ?_
              refine lv_ldc2 (v := 126943972648308) hx hb hown (hts (.constantLong RX9 173 (126943972648308)) (List.mem_of_getElem? (i := 7) rfl)) dX9_isKept_49 ?_
              refine W.lcmp hx hb dX9_isKept_52 ?_
              refine lv_topi (fun x_19 ex_19 => ?_)
              refine lv_if_eq (tgt := 64) hx hb dX9_isKept_53 (by decide) (fun c_20 => ?_) (fun c_20 => ?_)
              · skip
                have h_21 : rg (0) (0) x_19 := by have ha := (rg_any x_19); have hb_ := (rg_k (x := 0) (c := 0) (by decide)); simp only [rg, fa_lt, fa_le, fa_eq, (by decide : (0 : Int32).toInt = 0)] at ha hb_ c_20; simp only [rg]; omega
                refine lv_iconst (v := 1) hx hb dX9_isKept_64 (by decide) ?_
                refine lv_goto (tgt := 69) hx hb dX9_isKept_65 (by decide) ?_
                refine lv_istore_n (lv' := [(2, .int 1), (0, .long y0)]) hx hb dX9_isKept_69 rfl hl (by decide) rfl (fun ls hl => ?_)
                refine lv_iload_n hx hb dX9_isKept_70 rfl (lv_at hl 0 rfl) ?_
                refine lv_if_ne (tgt := 130) hx hb dX9_isKept_71 (by decide) (fun _ => ?_) (fun cz => absurd cz (by decide))
                refine lv_iconst (v := 1) hx hb dX9_isKept_130 (by decide) ?_
                refine lv_goto (tgt := 135) hx hb dX9_isKept_131 (by decide) ?_
                have hP9 := hP.sub (ws' := []) [] rfl
                have hD9 := hD.sub (ws' := []) [] (by decide) rfl
                exact W.zret (v := 1) hx hb hr (rfl) (fun t ht hW => ⟨⟨1, (), rfl, (rg_mono (rg_k (x := 1) (c := 1) (by decide)) (by decide) (by decide)), ⟨by rw [ht]; exact hP9, hD9⟩⟩, hS.F ht⟩) hS.2.2 dX9_isKept_135
              · skip
                refine lv_lload_n hx hb dX9_isKept_56 rfl (lv_at hl 0 rfl) ?_
                refine lv_ldc2 (v := 7102839) hx hb hown (hts (.constantLong RX9 175 (7102839)) (List.mem_of_getElem? (i := 8) rfl)) dX9_isKept_57 ?_
                refine W.lcmp hx hb dX9_isKept_60 ?_
                refine lv_topi (fun x_22 ex_22 => ?_)
                refine lv_if_ne (tgt := 68) hx hb dX9_isKept_61 (by decide) (fun c_23 => ?_) (fun c_23 => ?_)
                · skip
                  refine lv_iconst (v := 0) hx hb dX9_isKept_68 (by decide) ?_
                  refine lv_istore_n (lv' := [(2, .int 0), (0, .long y0)]) hx hb dX9_isKept_69 rfl hl (by decide) rfl (fun ls hl => ?_)
                  refine lv_iload_n hx hb dX9_isKept_70 rfl (lv_at hl 0 rfl) ?_
                  refine lv_if_ne (tgt := 130) hx hb dX9_isKept_71 (by decide) (fun cz => absurd (by decide) cz) (fun _ => ?_)
                  refine lv_lload_n hx hb dX9_isKept_74 rfl (lv_at hl 1 rfl) ?_
                  refine lv_ldc2 (v := 465624852596) hx hb hown (hts (.constantLong RX9 177 (465624852596)) (List.mem_of_getElem? (i := 9) rfl)) dX9_isKept_75 ?_
                  refine W.lcmp hx hb dX9_isKept_78 ?_
                  refine lv_topi (fun x_24 ex_24 => ?_)
                  refine lv_if_eq (tgt := 130) hx hb dX9_isKept_79 (by decide) (fun c_25 => ?_) (fun c_25 => ?_)
                  · skip
                    have h_26 : rg (0) (0) x_24 := by have ha := (rg_any x_24); have hb_ := (rg_k (x := 0) (c := 0) (by decide)); simp only [rg, fa_lt, fa_le, fa_eq, (by decide : (0 : Int32).toInt = 0)] at ha hb_ c_25; simp only [rg]; omega
                    refine lv_iconst (v := 1) hx hb dX9_isKept_130 (by decide) ?_
                    refine lv_goto (tgt := 135) hx hb dX9_isKept_131 (by decide) ?_
                    have hP9 := hP.sub (ws' := []) [] rfl
                    have hD9 := hD.sub (ws' := []) [] (by decide) rfl
                    exact W.zret (v := 1) hx hb hr (rfl) (fun t ht hW => ⟨⟨1, (), rfl, (rg_mono (rg_k (x := 1) (c := 1) (by decide)) (by decide) (by decide)), ⟨by rw [ht]; exact hP9, hD9⟩⟩, hS.F ht⟩) hS.2.2 dX9_isKept_135
                  · skip
                    refine lv_lload_n hx hb dX9_isKept_82 rfl (lv_at hl 1 rfl) ?_
                    refine lv_ldc2 (v := 448377484921) hx hb hown (hts (.constantLong RX9 179 (448377484921)) (List.mem_of_getElem? (i := 10) rfl)) dX9_isKept_83 ?_
                    refine W.lcmp hx hb dX9_isKept_86 ?_
                    refine lv_topi (fun x_27 ex_27 => ?_)
                    refine lv_if_eq (tgt := 130) hx hb dX9_isKept_87 (by decide) (fun c_28 => ?_) (fun c_28 => ?_)
                    · skip
                      have h_29 : rg (0) (0) x_27 := by have ha := (rg_any x_27); have hb_ := (rg_k (x := 0) (c := 0) (by decide)); simp only [rg, fa_lt, fa_le, fa_eq, (by decide : (0 : Int32).toInt = 0)] at ha hb_ c_28; simp only [rg]; omega
                      refine lv_iconst (v := 1) hx hb dX9_isKept_130 (by decide) ?_
                      refine lv_goto (tgt := 135) hx hb dX9_isKept_131 (by decide) ?_
                      have hP9 := hP.sub (ws' := []) [] rfl
                      have hD9 := hD.sub (ws' := []) [] (by decide) rfl
                      exact W.zret (v := 1) hx hb hr (rfl) (fun t ht hW => ⟨⟨1, (), rfl, (rg_mono (rg_k (x := 1) (c := 1) (by decide)) (by decide) (by decide)), ⟨by rw [ht]; exact hP9, hD9⟩⟩, hS.F ht⟩) hS.2.2 dX9_isKept_135
                    · skip
                      refine lv_lload_n hx hb dX9_isKept_90 rfl (lv_at hl 1 rfl) ?_
                      refine lv_ldc2 (v := 495690081125) hx hb hown (hts (.constantLong RX9 181 (495690081125)) (List.mem_of_getElem? (i := 11) rfl)) dX9_isKept_91 ?_
                      refine W.lcmp hx hb dX9_isKept_94 ?_
                      refine lv_topi (fun x_30 ex_30 => ?_)
                      refine lv_if_eq (tgt := 130) hx hb dX9_isKept_95 (by decide) (fun c_31 => ?_) (fun c_31 => ?_)
                      · skip
                        have h_32 : rg (0) (0) x_30 := by have ha := (rg_any x_30); have hb_ := (rg_k (x := 0) (c := 0) (by decide)); simp only [rg, fa_lt, fa_le, fa_eq, (by decide : (0 : Int32).toInt = 0)] at ha hb_ c_31; simp only [rg]; omega
                        refine lv_iconst (v := 1) hx hb dX9_isKept_130 (by decide) ?_
                        refine lv_goto (tgt := 135) hx hb dX9_isKept_131 (by decide) ?_
                        have hP9 := hP.sub (ws' := []) [] rfl
                        have hD9 := hD.sub (ws' := []) [] (by decide) rfl
                        exact W.zret (v := 1) hx hb hr (rfl) (fun t ht hW => ⟨⟨1, (), rfl, (rg_mono (rg_k (x := 1) (c := 1) (by decide)) (by decide) (by decide)), ⟨by rw [ht]; exact hP9, hD9⟩⟩, hS.F ht⟩) hS.2.2 dX9_isKept_135
                      · skip
                        refine lv_lload_n hx hb dX9_isKept_98 rfl (lv_at hl 1 rfl) ?_
                        refine lv_ldc2 (v := 2036687218) hx hb hown (hts (.constantLong RX9 183 (2036687218)) (List.mem_of_getElem? (i := 12) rfl)) dX9_isKept_99 ?_
                        refine W.lcmp hx hb dX9_isKept_102 ?_
                        refine lv_topi (fun x_33 ex_33 => ?_)
                        refine lv_if_eq (tgt := 130) hx hb dX9_isKept_103 (by decide) (fun c_34 => ?_) (fun c_34 => ?_)
                        · skip
                          have h_35 : rg (0) (0) x_33 := by have ha := (rg_any x_33); have hb_ := (rg_k (x := 0) (c := 0) (by decide)); simp only [rg, fa_lt, fa_le, fa_eq, (by decide : (0 : Int32).toInt = 0)] at ha hb_ c_34; simp only [rg]; omega
                          refine lv_iconst (v := 1) hx hb dX9_isKept_130 (by decide) ?_
                          refine lv_goto (tgt := 135) hx hb dX9_isKept_131 (by decide) ?_
                          have hP9 := hP.sub (ws' := []) [] rfl
                          have hD9 := hD.sub (ws' := []) [] (by decide) rfl
                          exact W.zret (v := 1) hx hb hr (rfl) (fun t ht hW => ⟨⟨1, (), rfl, (rg_mono (rg_k (x := 1) (c := 1) (by decide)) (by decide) (by decide)), ⟨by rw [ht]; exact hP9, hD9⟩⟩, hS.F ht⟩) hS.2.2 dX9_isKept_135
                        · skip
                          refine lv_lload_n hx hb dX9_isKept_106 rfl (lv_at hl 1 rfl) ?_
                          refine lv_ldc2 (v := 6385252) hx hb hown (hts (.constantLong RX9 185 (6385252)) (List.mem_of_getElem? (i := 13) rfl)) dX9_isKept_107 ?_
                          refine W.lcmp hx hb dX9_isKept_110 ?_
                          refine lv_topi (fun x_36 ex_36 => ?_)
                          refine lv_if_eq (tgt := 130) hx hb dX9_isKept_111 (by decide) (fun c_37 => ?_) (fun c_37 => ?_)
                          · skip
                            have h_38 : rg (0) (0) x_36 := by have ha := (rg_any x_36); have hb_ := (rg_k (x := 0) (c := 0) (by decide)); simp only [rg, fa_lt, fa_le, fa_eq, (by decide : (0 : Int32).toInt = 0)] at ha hb_ c_37; simp only [rg]; omega
                            refine lv_iconst (v := 1) hx hb dX9_isKept_130 (by decide) ?_
                            refine lv_goto (tgt := 135) hx hb dX9_isKept_131 (by decide) ?_
                            have hP9 := hP.sub (ws' := []) [] rfl
                            have hD9 := hD.sub (ws' := []) [] (by decide) rfl
                            exact W.zret (v := 1) hx hb hr (rfl) (fun t ht hW => ⟨⟨1, (), rfl, (rg_mono (rg_k (x := 1) (c := 1) (by decide)) (by decide) (by decide)), ⟨by rw [ht]; exact hP9, hD9⟩⟩, hS.F ht⟩) hS.2.2 dX9_isKept_135
                          · skip
                            refine lv_lload_n hx hb dX9_isKept_114 rfl (lv_at hl 1 rfl) ?_
                            refine lv_ldc2 (v := 28530) hx hb hown (hts (.constantLong RX9 187 (28530)) (List.mem_of_getElem? (i := 14) rfl)) dX9_isKept_115 ?_
                            refine W.lcmp hx hb dX9_isKept_118 ?_
                            refine lv_topi (fun x_39 ex_39 => ?_)
                            refine lv_if_eq (tgt := 130) hx hb dX9_isKept_119 (by decide) (fun c_40 => ?_) (fun c_40 => ?_)
                            · skip
                              have h_41 : rg (0) (0) x_39 := by have ha := (rg_any x_39); have hb_ := (rg_k (x := 0) (c := 0) (by decide)); simp only [rg, fa_lt, fa_le, fa_eq, (by decide : (0 : Int32).toInt = 0)] at ha hb_ c_40; simp only [rg]; omega
                              refine lv_iconst (v := 1) hx hb dX9_isKept_130 (by decide) ?_
                              refine lv_goto (tgt := 135) hx hb dX9_isKept_131 (by decide) ?_
                              have hP9 := hP.sub (ws' := []) [] rfl
                              have hD9 := hD.sub (ws' := []) [] (by decide) rfl
                              exact W.zret (v := 1) hx hb hr (rfl) (fun t ht hW => ⟨⟨1, (), rfl, (rg_mono (rg_k (x := 1) (c := 1) (by decide)) (by decide) (by decide)), ⟨by rw [ht]; exact hP9, hD9⟩⟩, hS.F ht⟩) hS.2.2 dX9_isKept_135
                            · skip
                              refine lv_lload_n hx hb dX9_isKept_122 rfl (lv_at hl 1 rfl) ?_
                              refine lv_ldc2 (v := 7237492) hx hb hown (hts (.constantLong RX9 189 (7237492)) (List.mem_of_getElem? (i := 15) rfl)) dX9_isKept_123 ?_
                              refine W.lcmp hx hb dX9_isKept_126 ?_
                              refine lv_topi (fun x_42 ex_42 => ?_)
                              refine lv_if_ne (tgt := 134) hx hb dX9_isKept_127 (by decide) (fun c_43 => ?_) (fun c_43 => ?_)
                              · skip
                                refine lv_iconst (v := 0) hx hb dX9_isKept_134 (by decide) ?_
                                have hP9 := hP.sub (ws' := []) [] rfl
                                have hD9 := hD.sub (ws' := []) [] (by decide) rfl
                                exact W.zret (v := 0) hx hb hr (rfl) (fun t ht hW => ⟨⟨0, (), rfl, (rg_mono (rg_k (x := 0) (c := 0) (by decide)) (by decide) (by decide)), ⟨by rw [ht]; exact hP9, hD9⟩⟩, hS.F ht⟩) hS.2.2 dX9_isKept_135
                              · skip
                                have h_44 : rg (0) (0) x_42 := by have ha := (rg_any x_42); have hb_ := (rg_k (x := 0) (c := 0) (by decide)); simp only [rg, fa_lt, fa_le, fa_eq, (by decide : (0 : Int32).toInt = 0)] at ha hb_ c_43; simp only [rg]; omega
                                refine lv_iconst (v := 1) hx hb dX9_isKept_130 (by decide) ?_
                                refine lv_goto (tgt := 135) hx hb dX9_isKept_131 (by decide) ?_
                                have hP9 := hP.sub (ws' := []) [] rfl
                                have hD9 := hD.sub (ws' := []) [] (by decide) rfl
                                exact W.zret (v := 1) hx hb hr (rfl) (fun t ht hW => ⟨⟨1, (), rfl, (rg_mono (rg_k (x := 1) (c := 1) (by decide)) (by decide) (by decide)), ⟨by rw [ht]; exact hP9, hD9⟩⟩, hS.F ht⟩) hS.2.2 dX9_isKept_135
                · skip
                  have h_45 : rg (0) (0) x_22 := by have ha := (rg_any x_22); have hb_ := (rg_k (x := 0) (c := 0) (by decide)); simp only [rg, fa_lt, fa_le, fa_eq, (by decide : (0 : Int32).toInt = 0)] at ha hb_ c_23; simp only [rg]; omega
                  refine lv_iconst (v := 1) hx hb dX9_isKept_64 (by decide) ?_
                  refine lv_goto (tgt := 69) hx hb dX9_isKept_65 (by decide) ?_
                  refine lv_istore_n (lv' := [(2, .int 1), (0, .long y0)]) hx hb dX9_isKept_69 rfl hl (by decide) rfl (fun ls hl => ?_)
                  refine lv_iload_n hx hb dX9_isKept_70 rfl (lv_at hl 0 rfl) ?_
                  refine lv_if_ne (tgt := 130) hx hb dX9_isKept_71 (by decide) (fun _ => ?_) (fun cz => absurd cz (by decide))
                  refine lv_iconst (v := 1) hx hb dX9_isKept_130 (by decide) ?_
                  refine lv_goto (tgt := 135) hx hb dX9_isKept_131 (by decide) ?_
                  have hP9 := hP.sub (ws' := []) [] rfl
                  have hD9 := hD.sub (ws' := []) [] (by decide) rfl
                  exact W.zret (v := 1) hx hb hr (rfl) (fun t ht hW => ⟨⟨1, (), rfl, (rg_mono (rg_k (x := 1) (c := 1) (by decide)) (by decide) (by decide)), ⟨by rw [ht]; exact hP9, hD9⟩⟩, hS.F ht⟩) hS.2.2 dX9_isKept_135
