def v_fill1 : List Cond := Cond.code yJ7_fill_53178 cJ7_fill_53178 4 none :: ([] ++ ([]))
theorem k_fill1 : GoodIn lw_tbl v_fill1 := gd_c (List.mem_of_getElem? (i := 209) (by decide +kernel)) rfl (goodIn_app gd_nil gd_nil)
set_option maxHeartbeats 600000 in
set_option maxRecDepth 100000 in
/-- Arrays.fill: all places hold the number -/
theorem c_fill1 (l : Launch) (dC : Nat → ClassId) (dI : Nat → Nat → Nat) (cB cI cJ cZ cP : ClassId) (h0 : Nat) (k0 : Nat) (g0 : Nat → Int32) (p0 : Int32) (hk : k0 < 2 ^ 31) (sz : Nat) : Met l yJ7_fill_53178 v_fill1 ({ frames := 0, cells := 0, slots := 0, locals := 0 }) (va_Pc [.ref h0, .int p0] (fun U => U.heap.size = sz ∧ va_P (dC, dI) vwCl [(h0, .inl (cI, k0, .inl g0))] U.heap ∧ va_K (dC, dI) vwCl (ty5 cB cI cJ cZ cP) U ∧ va_D (fun _ => True) [(h0, .inl (cI, k0, .inl g0))])) (va_Qv (fun _ : Unit => True) (fun _ t => va_P (dC, dI) vwCl [(h0, .inl (cI, k0, .inl (fun _ => p0)))] t.heap ∧ va_D (va_A [(h0, .inl (cI, k0, .inl g0))] sz) [(h0, .inl (cI, k0, .inl (fun _ => p0)))]) (va_A [(h0, .inl (cI, k0, .inl g0))] sz)) 0 0 (va_A [(h0, .inl (cI, k0, .inl g0))] sz) := by
  refine Met.ofW (cc := cJ7_fill_53178) (maxL := 4) (ret := none) (by decide) rfl ?_
  intro p e s m args below meth c s₁ B hml hv
  obtain ⟨rfl, hsz, hP, hK, hD0⟩ := hv
  have hx := B.exec
  have hb := B.bytes
  have hr := B.returns
  have hts := atoms_spec (ws := v_fill1) B.pre
  have hlocks := B.notSynchronized
  subst hsz
  have hD := hD0.self (sz := s.heap.size)
  generalize hAe : va_A [(h0, .inl (cI, k0, .inl g0))] s.heap.size = A at hD ⊢
  have hP : va_P (dC, dI) vwCl [(h0, .inl (cI, k0, .inl g0))] s.heap := hP
  have hl := lv_entry ([.ref h0, .int p0]) (n := 4) (Nat.le_of_ble_eq_true rfl)
  rw [lg_entry_eq]
  generalize (lg_sl ([.ref h0, .int p0]) ++ List.replicate (4 - (lg_sl ([.ref h0, .int p0])).length) Slot.unset).toArray = ls at hl ⊢
  have hl : lv_has ls 4 [(0, .ref h0), (1, .int p0)] := hl
  refine W_gen (A := A) hP (fun H locs hP hS => ?_)
  refine lv_iconst (v := 0) hx hb dJ7_fill_53178_0 (by decide) ?_
  refine lv_istore_n (lv' := [(2, .int 0), (0, .ref h0), (1, .int p0)]) hx hb dJ7_fill_53178_1 rfl hl (by decide) rfl (fun ls hl => ?_)
  refine lv_aload_n hx hb dJ7_fill_53178_2 rfl (lv_at hl 1 rfl) ?_
  refine va_alen (v := nI k0) hx hb hK hP 0 1 rfl rfl rfl dJ7_fill_53178_3 ?_
  refine lv_istore_n (lv' := [(3, .int (nI k0)), (2, .int 0), (0, .ref h0), (1, .int p0)]) hx hb dJ7_fill_53178_4 rfl hl (by decide) rfl (fun ls hl => ?_)
  refine W_loop (σ := Nat → Int32) k0 (fun i u H locs ls => va_P (dC, dI) vwCl [(h0, .inl (cI, k0, .inl u))] H ∧ va_D A [(h0, .inl (cI, k0, .inl u))] ∧ va_S A s.heap H locs ∧ lv_has ls 4 [(2, .int (nI i)), (3, .int (nI k0)), (0, .ref h0), (1, .int p0)] ∧ ∀ j, j < i → u j = p0) 5 [] ?_ ?_ 0 (Nat.zero_le _) g0 H locs ls ⟨hP, hD, hS, lv_sub hl [1, 0, 2, 3] rfl, fun j hj => absurd hj (Nat.not_lt_zero j)⟩
  · rintro i hi f H locs ls ⟨hP, hD, hS, hl, hv⟩ ih
    have hl : lv_has ls 4 [(2, .int (nI i)), (3, .int (nI k0)), (0, .ref h0), (1, .int p0)] := hl
    refine lv_iload_n hx hb dJ7_fill_53178_5 rfl (lv_at hl 0 rfl) ?_
    refine lv_iload_n hx hb dJ7_fill_53178_6 rfl (lv_at hl 1 rfl) ?_
    refine lv_icmp_ge (tgt := 20) hx hb dJ7_fill_53178_7 (by decide) (fun cz => absurd ((nI_leI (a := k0) (b := i) (by omega) (by omega)).mp cz) (by omega)) (fun _ => ?_)
    refine lv_aload_n hx hb dJ7_fill_53178_10 rfl (lv_at hl 2 rfl) ?_
    refine lv_iload_n hx hb dJ7_fill_53178_11 rfl (lv_at hl 0 rfl) ?_
    refine lv_iload_n hx hb dJ7_fill_53178_12 rfl (lv_at hl 3 rfl) ?_
    refine va_iast hx hb hK hP hD hS 0 1 rfl rfl (vp_in_nI hi hk) dJ7_fill_53178_13 (fun H locs hP hD hS => ?_)
    refine lv_iinc (v := nI (i + 1)) (lv' := [(2, .int (nI (i + 1))), (3, .int (nI k0)), (0, .ref h0), (1, .int p0)]) hx hb dJ7_fill_53178_14 hl (k := 0) rfl (nI_1 i) (by decide) rfl (fun ls hl => ?_)
    refine lv_goto (tgt := 5) hx hb dJ7_fill_53178_17 (by decide) ?_
    refine ih (upd f (nI i).toNatClampNeg p0) H locs ls ⟨hP, hD, hS, hl, fun j hj => ?_⟩
    rw [nI_clamp (by omega)]
    rcases Nat.lt_succ_iff_lt_or_eq.mp hj with h | h
    · rw [pk_un (by omega)]; exact hv j h
    · subst h; exact pk_us
  · rintro f H locs ls ⟨hP, hD, hS, hl, hv⟩
    have hl : lv_has ls 4 [(2, .int (nI k0)), (3, .int (nI k0)), (0, .ref h0), (1, .int p0)] := hl
    refine lv_iload_n hx hb dJ7_fill_53178_5 rfl (lv_at hl 0 rfl) ?_
    refine lv_iload_n hx hb dJ7_fill_53178_6 rfl (lv_at hl 1 rfl) ?_
    refine lv_icmp_ge (tgt := 20) hx hb dJ7_fill_53178_7 (by decide) (fun _ => ?_) (fun cz => absurd (Int32.le_refl _) cz)
    have hP9 : va_P (dC, dI) vwCl [(h0, .inl (cI, k0, .inl (fun _ => p0)))] H := by
      intro k q hq
      match k, hq with
      | 0, hq =>
        cases hq
        have h1 : H[h0]? = some (vp_cell cI (k0, .inl f)) := hP 0 _ rfl
        show H[h0]? = some (vp_cell cI (k0, .inl (fun _ => p0)))
        rw [h1, ar_ext hv]
      | k + 1, hq => simp at hq
    have hD9 : va_D A [(h0, .inl (cI, k0, .inl (fun _ => p0)))] := by
      refine ⟨fun i j p q hi hj _ => ?_, fun k q hq => ?_⟩
      · have a := (List.getElem?_eq_some_iff.mp hi).1
        have b := (List.getElem?_eq_some_iff.mp hj).1
        simp at a b
        omega
      · match k, hq with
        | 0, hq => cases hq; exact hD.2 0 (h0, .inl (cI, k0, .inl f)) rfl
        | k + 1, hq => simp at hq
    exact W.vret hx hb hr (fun t ht hW => ⟨⟨(), rfl, trivial, by rw [ht]; exact hP9, hD9⟩, hS.F ht⟩) hS.2.2 dJ7_fill_53178_20

def v_J0_coder_7d493 : List Cond := Cond.code yJ0_coder_7d493 cJ0_coder_7d493 1 (some .byte) :: ([Cond.fieldLink RJ0 38 "java/lang/String" "COMPACT_STRINGS" "Z", Cond.fieldLink RJ0 15 "java/lang/String" "coder" "B"] ++ ([]))
theorem k_J0_coder_7d493 : GoodIn lw_tbl v_J0_coder_7d493 := gd_c (List.mem_of_getElem? (i := 263) (by decide +kernel)) rfl (goodIn_app (gd_c (List.mem_of_getElem? (i := 264) (by decide +kernel)) rfl (gd_c (List.mem_of_getElem? (i := 1871) (by decide +kernel)) rfl (gd_nil))) (gd_nil))
set_option maxHeartbeats 600000 in
set_option maxRecDepth 100000 in
theorem c_J0_coder_7d493 (l : Launch) (dC : Nat → ClassId) (dI : Nat → Nat → Nat) (cB cI cJ cZ cP : ClassId) (ks : Nat) (vs : Nat) (fb : Nat → Int32) (sz : Nat) : Met l yJ0_coder_7d493 v_J0_coder_7d493 ({ frames := 0, cells := 0, slots := 0, locals := 0 }) (va_Pc [.ref ks] (fun U => U.heap.size = sz ∧ va_P (dC, dI) vwCl [] U.heap ∧ va_K (dC, dI) vwCl (ty5 cB cI cJ cZ cP) U ∧ va_D (fun _ => True) [] ∧ SO ks vs fb (va_A [] sz) U U.heap)) (va_Qi (fun (r : Int32) (_ : Unit) => r = 0) (fun _ t => va_P (dC, dI) vwCl [] t.heap ∧ va_D (va_A [] sz) []) (va_A [] sz)) 0 0 (va_A [] sz) := by
  refine Met.ofW (cc := cJ0_coder_7d493) (maxL := 1) (ret := (some .byte)) (by decide) rfl ?_
  intro p e s m args below meth c s₁ B hml hv
  obtain ⟨rfl, hsz, hP, hK, hD0, hN0⟩ := hv
  have hx := B.exec
  have hb := B.bytes
  have hr := B.returns
  have hts := atoms_spec (ws := v_J0_coder_7d493) B.pre
  have hown : s.vm.findClass RJ0 = some m.cls := findClass_of_methodNamed B.named
  have hlocks := B.notSynchronized
  subst hsz
  have hD := hD0.self (sz := s.heap.size)
  generalize hAe : va_A [] s.heap.size = A at hD hN0 ⊢
  have hA : ∀ q : Nat, s.heap.size ≤ q → A q := fun q h => by rw [← hAe]; exact Or.inr h
  have hP : va_P (dC, dI) vwCl [] s.heap := hP
  have hl := lv_entry ([.ref ks]) (n := 1) (Nat.le_of_ble_eq_true rfl)
  rw [lg_entry_eq]
  generalize (lg_sl ([.ref ks]) ++ List.replicate (1 - (lg_sl ([.ref ks])).length) Slot.unset).toArray = ls at hl ⊢
  have hl : lv_has ls 1 [(0, .ref ks)] := hl
  refine W_gen (A := A) hP (fun H locs hP hS => ?_)
  refine va_gets (v := .int 1) hx hb hN0.2.2.2.2.1 hS hown (hts (.fieldLink RJ0 38 "java/lang/String" "COMPACT_STRINGS" "Z") (List.mem_of_getElem? (i := 1) rfl)) (fun _ h => h) dJ0_coder_7d493_0 ?_
  refine lv_if_eq (tgt := 13) hx hb dJ0_coder_7d493_3 (by decide) (fun cz => absurd cz (by decide)) (fun _ => ?_)
  refine lv_aload_n hx hb dJ0_coder_7d493_6 rfl (lv_at hl 0 rfl) ?_
  refine vk_getf (v := .int 0) hx hb hN0.2.1 hS hown (hts (.fieldLink RJ0 15 "java/lang/String" "coder" "B") (List.mem_of_getElem? (i := 2) rfl)) (fun _ h => h) dJ0_coder_7d493_7 ?_
  refine lv_goto (tgt := 14) hx hb dJ0_coder_7d493_10 (by decide) ?_
  have hP9 := hP.sub (ws' := []) [] rfl
  have hD9 := hD.sub (ws' := []) [] (by decide) rfl
  exact W.zret (v := 0) hx hb hr (rfl) (fun t ht hW => ⟨⟨0, (), rfl, rfl, ⟨by rw [ht]; exact hP9, hD9⟩⟩, hS.F ht⟩) hS.2.2 dJ0_coder_7d493_14
def v_J0_length_8abf5 : List Cond := Cond.code yJ0_length_8abf5 cJ0_length_8abf5 1 (some .int) :: ([Cond.fieldLink RJ0 9 "java/lang/String" "value" "[B", Cond.methodLink RJ0 335 yJ0_coder_7d493, Cond.instanceMethod yJ0_coder_7d493, Cond.selects RJ0 yJ0_coder_7d493 yJ0_coder_7d493, Cond.initialized RJ0] ++ (v_J0_coder_7d493 ++ ([])))
theorem k_J0_length_8abf5 : GoodIn lw_tbl v_J0_length_8abf5 := gd_c (List.mem_of_getElem? (i := 259) (by decide +kernel)) rfl (goodIn_app (gd_c (List.mem_of_getElem? (i := 1870) (by decide +kernel)) rfl (gd_c (List.mem_of_getElem? (i := 260) (by decide +kernel)) rfl (gd_c (List.mem_of_getElem? (i := 261) (by decide +kernel)) rfl (gd_c (List.mem_of_getElem? (i := 262) (by decide +kernel)) rfl (gd_c (List.mem_of_getElem? (i := 135) (by decide +kernel)) rfl (gd_nil)))))) (goodIn_app k_J0_coder_7d493 (gd_nil)))
set_option maxHeartbeats 600000 in
set_option maxRecDepth 100000 in
theorem c_J0_length_8abf5 (l : Launch) (dC : Nat → ClassId) (dI : Nat → Nat → Nat) (cB cI cJ cZ cP : ClassId) (ks : Nat) (vs : Nat) (fb : Nat → Int32) (sz : Nat) : Met l yJ0_length_8abf5 v_J0_length_8abf5 ({ frames := 1, cells := 0, slots := 0, locals := 20 }) (va_Pc [.ref ks] (fun U => U.heap.size = sz ∧ va_P (dC, dI) vwCl [] U.heap ∧ va_K (dC, dI) vwCl (ty5 cB cI cJ cZ cP) U ∧ va_D (fun _ => True) [] ∧ SO ks vs fb (va_A [] sz) U U.heap)) (va_Qi (fun (r : Int32) (_ : Unit) => r = 83) (fun _ t => va_P (dC, dI) vwCl [] t.heap ∧ va_D (va_A [] sz) []) (va_A [] sz)) 0 0 (va_A [] sz) := by
  refine Met.ofW (cc := cJ0_length_8abf5) (maxL := 1) (ret := (some .int)) (by decide) rfl ?_
  intro p e s m args below meth c s₁ B hml hv
  obtain ⟨rfl, hsz, hP, hK, hD0, hN0⟩ := hv
  have hx := B.exec
  have hb := B.bytes
  have hr := B.returns
  have hts := atoms_spec (ws := v_J0_length_8abf5) B.pre
  have hown : s.vm.findClass RJ0 = some m.cls := findClass_of_methodNamed B.named
  have hlocks := B.notSynchronized
  subst hsz
  have hD := hD0.self (sz := s.heap.size)
  generalize hAe : va_A [] s.heap.size = A at hD hN0 ⊢
  have hA : ∀ q : Nat, s.heap.size ≤ q → A q := fun q h => by rw [← hAe]; exact Or.inr h
  have hP : va_P (dC, dI) vwCl [] s.heap := hP
  have hl := lv_entry ([.ref ks]) (n := 1) (Nat.le_of_ble_eq_true rfl)
  rw [lg_entry_eq]
  generalize (lg_sl ([.ref ks]) ++ List.replicate (1 - (lg_sl ([.ref ks])).length) Slot.unset).toArray = ls at hl ⊢
  have hl : lv_has ls 1 [(0, .ref ks)] := hl
  refine W_gen (A := A) hP (fun H locs hP hS => ?_)
  refine lv_aload_n hx hb dJ0_length_8abf5_0 rfl (lv_at hl 0 rfl) ?_
  refine vk_getf (v := .ref vs) hx hb hN0.2.2.1 hS hown (hts (.fieldLink RJ0 9 "java/lang/String" "value" "[B") (List.mem_of_getElem? (i := 1) rfl)) (fun _ h => h) dJ0_length_8abf5_1 ?_
  refine va_tlen (v := 83) hx hb hN0.2.2.2.1 hS (by decide) dJ0_length_8abf5_4 ?_
  refine lv_aload_n hx hb dJ0_length_8abf5_5 rfl (lv_at hl 0 rfl) ?_
  have hPc := hP.sub (ws' := []) [] rfl
  have hDc := hD.sub (ws' := []) [] (by decide) rfl
  have hFc := va_free (wc := []) hD hS hA [] rfl
  refine va_calli (va_runV (As := []) (rest := [.int 83]) ⟨hx, hb, hml, hown, hts⟩ (c_J0_coder_7d493 l dC dI cB cI cJ cZ cP ks vs fb H.size) (cwV 0 hts (gd_V (List.mem_of_getElem? (i := 2) rfl) (List.mem_of_getElem? (i := 3) rfl) (List.mem_of_getElem? (i := 4) rfl) (List.mem_of_getElem? (i := 5) rfl) (gd_mono k_J0_coder_7d493 (fun _ h => List.mem_cons_of_mem _ (List.mem_append_right _ (List.mem_append_left _ h))))) rfl rfl rfl (by decide +kernel) ⟨Nat.le_of_ble_eq_true rfl, Nat.le_of_ble_eq_true rfl⟩) ⟨fun a U g mk q => by obtain ⟨q0, q1, qP, qK, qD, qN0⟩ := q; exact ⟨q0, q1, qP, va_K.moved (u := U) (U := U.calling g mk a) (Vm.Alike.refl U.vm) qK, qD, SO_moved (u := U) (U := U.calling g mk a) (Vm.Alike.refl U.vm) qN0⟩, SO_recv hN0 hS, fun U hU hW => ⟨rfl, by rw [hU], by rw [hU]; exact hPc, va_K.moved hW.alike hK, hDc.weaken (fun _ _ _ _ => trivial), by rw [hU]; exact SO_moved hW.alike (SO_narrow (SO_kept hN0 hS.2.1) hFc)⟩⟩ rfl rfl hl.1 rfl (lv_room (Nat.le_of_ble_eq_true rfl)) dJ0_length_8abf5_6 ⟨Nat.le_of_ble_eq_true rfl, Nat.le_of_ble_eq_true rfl⟩) hS (fun q _ h => hFc q h) hFc (fun r_1 u t H1 locs ht hvm hw hB hz1 hk1 hS => ?_)
  obtain ⟨hP1, hD1⟩ := hB
  rw [ht] at hP1
  obtain ⟨hP, hD⟩ := va_join (wr := []) (w1 := []) hP hD [] [] rfl rfl (by decide) (by decide) hk1 hFc hP1 hD1
  generalize H1 = H at hP hS ⊢
  have hP : va_P (dC, dI) vwCl [] H := hP
  have hD : va_D A [] := hD
  refine tp_v (.int 0) (congrArg Value.int hw) ?_
  refine lv_ishr hx hb dJ0_length_8abf5_9 ?_
  refine tp_v (.int 83) (congrArg Value.int (by decide)) ?_
  have hP9 := hP.sub (ws' := []) [] rfl
  have hD9 := hD.sub (ws' := []) [] (by decide) rfl
  exact W.iret (v := 83) hx hb hr (fun t ht hW => ⟨⟨83, (), rfl, rfl, ⟨by rw [ht]; exact hP9, hD9⟩⟩, hS.F ht⟩) hS.2.2 dJ0_length_8abf5_10
def v_J0_isLatin1_aae02 : List Cond := Cond.code yJ0_isLatin1_aae02 cJ0_isLatin1_aae02 1 (some .boolean) :: ([Cond.fieldLink RJ0 38 "java/lang/String" "COMPACT_STRINGS" "Z", Cond.fieldLink RJ0 15 "java/lang/String" "coder" "B"] ++ ([]))
theorem k_J0_isLatin1_aae02 : GoodIn lw_tbl v_J0_isLatin1_aae02 := gd_c (List.mem_of_getElem? (i := 273) (by decide +kernel)) rfl (goodIn_app (gd_c (List.mem_of_getElem? (i := 264) (by decide +kernel)) rfl (gd_c (List.mem_of_getElem? (i := 1871) (by decide +kernel)) rfl (gd_nil))) (gd_nil))
set_option maxHeartbeats 600000 in
set_option maxRecDepth 100000 in
theorem c_J0_isLatin1_aae02 (l : Launch) (dC : Nat → ClassId) (dI : Nat → Nat → Nat) (cB cI cJ cZ cP : ClassId) (ks : Nat) (vs : Nat) (fb : Nat → Int32) (sz : Nat) : Met l yJ0_isLatin1_aae02 v_J0_isLatin1_aae02 ({ frames := 0, cells := 0, slots := 0, locals := 0 }) (va_Pc [.ref ks] (fun U => U.heap.size = sz ∧ va_P (dC, dI) vwCl [] U.heap ∧ va_K (dC, dI) vwCl (ty5 cB cI cJ cZ cP) U ∧ va_D (fun _ => True) [] ∧ SO ks vs fb (va_A [] sz) U U.heap)) (va_Qi (fun (r : Int32) (_ : Unit) => r = 1) (fun _ t => va_P (dC, dI) vwCl [] t.heap ∧ va_D (va_A [] sz) []) (va_A [] sz)) 0 0 (va_A [] sz) := by
  refine Met.ofW (cc := cJ0_isLatin1_aae02) (maxL := 1) (ret := (some .boolean)) (by decide) rfl ?_
  intro p e s m args below meth c s₁ B hml hv
  obtain ⟨rfl, hsz, hP, hK, hD0, hN0⟩ := hv
  have hx := B.exec
  have hb := B.bytes
  have hr := B.returns
  have hts := atoms_spec (ws := v_J0_isLatin1_aae02) B.pre
  have hown : s.vm.findClass RJ0 = some m.cls := findClass_of_methodNamed B.named
  have hlocks := B.notSynchronized
  subst hsz
  have hD := hD0.self (sz := s.heap.size)
  generalize hAe : va_A [] s.heap.size = A at hD hN0 ⊢
  have hA : ∀ q : Nat, s.heap.size ≤ q → A q := fun q h => by rw [← hAe]; exact Or.inr h
  have hP : va_P (dC, dI) vwCl [] s.heap := hP
  have hl := lv_entry ([.ref ks]) (n := 1) (Nat.le_of_ble_eq_true rfl)
  rw [lg_entry_eq]
  generalize (lg_sl ([.ref ks]) ++ List.replicate (1 - (lg_sl ([.ref ks])).length) Slot.unset).toArray = ls at hl ⊢
  have hl : lv_has ls 1 [(0, .ref ks)] := hl
  refine W_gen (A := A) hP (fun H locs hP hS => ?_)
  refine va_gets (v := .int 1) hx hb hN0.2.2.2.2.1 hS hown (hts (.fieldLink RJ0 38 "java/lang/String" "COMPACT_STRINGS" "Z") (List.mem_of_getElem? (i := 1) rfl)) (fun _ h => h) dJ0_isLatin1_aae02_0 ?_
  refine lv_if_eq (tgt := 17) hx hb dJ0_isLatin1_aae02_3 (by decide) (fun cz => absurd cz (by decide)) (fun _ => ?_)
  refine lv_aload_n hx hb dJ0_isLatin1_aae02_6 rfl (lv_at hl 0 rfl) ?_
  refine vk_getf (v := .int 0) hx hb hN0.2.1 hS hown (hts (.fieldLink RJ0 15 "java/lang/String" "coder" "B") (List.mem_of_getElem? (i := 2) rfl)) (fun _ h => h) dJ0_isLatin1_aae02_7 ?_
  refine lv_if_ne (tgt := 17) hx hb dJ0_isLatin1_aae02_10 (by decide) (fun cz => absurd (by decide) cz) (fun _ => ?_)
  refine lv_iconst (v := 1) hx hb dJ0_isLatin1_aae02_13 (by decide) ?_
  refine lv_goto (tgt := 18) hx hb dJ0_isLatin1_aae02_14 (by decide) ?_
  have hP9 := hP.sub (ws' := []) [] rfl
  have hD9 := hD.sub (ws' := []) [] (by decide) rfl
  exact W.zret (v := 1) hx hb hr (rfl) (fun t ht hW => ⟨⟨1, (), rfl, rfl, ⟨by rw [ht]; exact hP9, hD9⟩⟩, hS.F ht⟩) hS.2.2 dJ0_isLatin1_aae02_18
def v_J3_checkIndex_8e157 : List Cond := Cond.code yJ3_checkIndex_8e157 cJ3_checkIndex_8e157 3 (some .int) :: ([] ++ ([]))
theorem k_J3_checkIndex_8e157 : GoodIn lw_tbl v_J3_checkIndex_8e157 := gd_c (List.mem_of_getElem? (i := 284) (by decide +kernel)) rfl (goodIn_app (gd_nil) (gd_nil))
set_option maxHeartbeats 600000 in
set_option maxRecDepth 100000 in
theorem c_J3_checkIndex_8e157 (l : Launch) (dC : Nat → ClassId) (dI : Nat → Nat → Nat) (cB cI cJ cZ cP : ClassId) (k0 : Nat) (hk0 : k0 < 83) (sz : Nat) : Met l yJ3_checkIndex_8e157 v_J3_checkIndex_8e157 ({ frames := 0, cells := 0, slots := 0, locals := 0 }) (va_Pc [.int (nI k0), .int 83, .null] (fun U => U.heap.size = sz ∧ va_P (dC, dI) vwCl [] U.heap ∧ va_K (dC, dI) vwCl (ty5 cB cI cJ cZ cP) U ∧ va_D (fun _ => True) [])) (va_Qi (fun (r : Int32) (_ : Unit) => r = (nI k0)) (fun _ t => va_P (dC, dI) vwCl [] t.heap ∧ va_D (va_A [] sz) []) (va_A [] sz)) 0 0 (va_A [] sz) := by
  refine Met.ofW (cc := cJ3_checkIndex_8e157) (maxL := 3) (ret := (some .int)) (by decide) rfl ?_
  intro p e s m args below meth c s₁ B hml hv
  obtain ⟨rfl, hsz, hP, hK, hD0⟩ := hv
  have hx := B.exec
  have hb := B.bytes
  have hr := B.returns
  have hts := atoms_spec (ws := v_J3_checkIndex_8e157) B.pre
  have hown : s.vm.findClass RJ3 = some m.cls := findClass_of_methodNamed B.named
  have hlocks := B.notSynchronized
  subst hsz
  have hD := hD0.self (sz := s.heap.size)
  generalize hAe : va_A [] s.heap.size = A at hD ⊢
  have hA : ∀ q : Nat, s.heap.size ≤ q → A q := fun q h => by rw [← hAe]; exact Or.inr h
  have hP : va_P (dC, dI) vwCl [] s.heap := hP
  have hl := lv_entry ([.int (nI k0), .int 83, .null]) (n := 3) (Nat.le_of_ble_eq_true rfl)
  rw [lg_entry_eq]
  generalize (lg_sl ([.int (nI k0), .int 83, .null]) ++ List.replicate (3 - (lg_sl ([.int (nI k0), .int 83, .null])).length) Slot.unset).toArray = ls at hl ⊢
  have hl : lv_has ls 3 [(0, .int (nI k0)), (1, .int 83), (2, .null)] := hl
  refine W_gen (A := A) hP (fun H locs hP hS => ?_)
  refine lv_iload_n hx hb dJ3_checkIndex_8e157_0 rfl (lv_at hl 0 rfl) ?_
  refine lv_if_lt (tgt := 9) hx hb dJ3_checkIndex_8e157_1 (by decide) (fun cz => absurd cz (nI_pos (by omega))) (fun _ => ?_)
  refine lv_iload_n hx hb dJ3_checkIndex_8e157_4 rfl (lv_at hl 0 rfl) ?_
  refine lv_iload_n hx hb dJ3_checkIndex_8e157_5 rfl (lv_at hl 1 rfl) ?_
  refine lv_icmp_lt (tgt := 16) hx hb dJ3_checkIndex_8e157_6 (by decide) (fun _ => ?_) (fun cz => absurd ((nI_ltI (a := k0) (b := 83) (by omega) (by omega)).mpr (by omega)) cz)
  refine lv_iload_n hx hb dJ3_checkIndex_8e157_16 rfl (lv_at hl 0 rfl) ?_
  have hP9 := hP.sub (ws' := []) [] rfl
  have hD9 := hD.sub (ws' := []) [] (by decide) rfl
  exact W.iret (v := (nI k0)) hx hb hr (fun t ht hW => ⟨⟨(nI k0), (), rfl, rfl, ⟨by rw [ht]; exact hP9, hD9⟩⟩, hS.F ht⟩) hS.2.2 dJ3_checkIndex_8e157_17
def v_J3_checkIndex_8e157_2 : List Cond := Cond.code yJ3_checkIndex_8e157 cJ3_checkIndex_8e157 3 (some .int) :: ([] ++ ([]))
theorem k_J3_checkIndex_8e157_2 : GoodIn lw_tbl v_J3_checkIndex_8e157_2 := gd_c (List.mem_of_getElem? (i := 284) (by decide +kernel)) rfl (goodIn_app (gd_nil) (gd_nil))
set_option maxHeartbeats 600000 in
set_option maxRecDepth 100000 in
theorem c_J3_checkIndex_8e157_2 (l : Launch) (dC : Nat → ClassId) (dI : Nat → Nat → Nat) (cB cI cJ cZ cP : ClassId) (k0 : Nat) (hk0 : k0 < 83) (t0 : Nat) (sz : Nat) : Met l yJ3_checkIndex_8e157 v_J3_checkIndex_8e157_2 ({ frames := 0, cells := 0, slots := 0, locals := 0 }) (va_Pc [.int (nI k0), .int 83, .ref t0] (fun U => U.heap.size = sz ∧ va_P (dC, dI) vwCl [] U.heap ∧ va_K (dC, dI) vwCl (ty5 cB cI cJ cZ cP) U ∧ va_D (fun _ => True) [])) (va_Qi (fun (r : Int32) (_ : Unit) => r = (nI k0)) (fun _ t => va_P (dC, dI) vwCl [] t.heap ∧ va_D (va_A [] sz) []) (va_A [] sz)) 0 0 (va_A [] sz) := by
  refine Met.ofW (cc := cJ3_checkIndex_8e157) (maxL := 3) (ret := (some .int)) (by decide) rfl ?_
  intro p e s m args below meth c s₁ B hml hv
  obtain ⟨rfl, hsz, hP, hK, hD0⟩ := hv
  have hx := B.exec
  have hb := B.bytes
  have hr := B.returns
  have hts := atoms_spec (ws := v_J3_checkIndex_8e157_2) B.pre
  have hown : s.vm.findClass RJ3 = some m.cls := findClass_of_methodNamed B.named
  have hlocks := B.notSynchronized
  subst hsz
  have hD := hD0.self (sz := s.heap.size)
  generalize hAe : va_A [] s.heap.size = A at hD ⊢
  have hA : ∀ q : Nat, s.heap.size ≤ q → A q := fun q h => by rw [← hAe]; exact Or.inr h
  have hP : va_P (dC, dI) vwCl [] s.heap := hP
  have hl := lv_entry ([.int (nI k0), .int 83, .ref t0]) (n := 3) (Nat.le_of_ble_eq_true rfl)
  rw [lg_entry_eq]
  generalize (lg_sl ([.int (nI k0), .int 83, .ref t0]) ++ List.replicate (3 - (lg_sl ([.int (nI k0), .int 83, .ref t0])).length) Slot.unset).toArray = ls at hl ⊢
  have hl : lv_has ls 3 [(0, .int (nI k0)), (1, .int 83), (2, .ref t0)] := hl
  refine W_gen (A := A) hP (fun H locs hP hS => ?_)
  refine lv_iload_n hx hb dJ3_checkIndex_8e157_0 rfl (lv_at hl 0 rfl) ?_
  refine lv_if_lt (tgt := 9) hx hb dJ3_checkIndex_8e157_1 (by decide) (fun cz => absurd cz (nI_pos (by omega))) (fun _ => ?_)
  refine lv_iload_n hx hb dJ3_checkIndex_8e157_4 rfl (lv_at hl 0 rfl) ?_
  refine lv_iload_n hx hb dJ3_checkIndex_8e157_5 rfl (lv_at hl 1 rfl) ?_
  refine lv_icmp_lt (tgt := 16) hx hb dJ3_checkIndex_8e157_6 (by decide) (fun _ => ?_) (fun cz => absurd ((nI_ltI (a := k0) (b := 83) (by omega) (by omega)).mpr (by omega)) cz)
  refine lv_iload_n hx hb dJ3_checkIndex_8e157_16 rfl (lv_at hl 0 rfl) ?_
  have hP9 := hP.sub (ws' := []) [] rfl
  have hD9 := hD.sub (ws' := []) [] (by decide) rfl
  exact W.iret (v := (nI k0)) hx hb hr (fun t ht hW => ⟨⟨(nI k0), (), rfl, rfl, ⟨by rw [ht]; exact hP9, hD9⟩⟩, hS.F ht⟩) hS.2.2 dJ3_checkIndex_8e157_17
def v_J0_checkIndex_df160 : List Cond := Cond.code yJ0_checkIndex_df160 cJ0_checkIndex_df160 2 none :: ([Cond.fieldLink RJ0 1053 "jdk/internal/util/Preconditions" "SIOOBE_FORMATTER" "Ljava/util/function/BiFunction;", Cond.methodLink RJ0 1059 yJ3_checkIndex_8e157, Cond.static yJ3_checkIndex_8e157, Cond.initialized RJ3] ++ (v_J3_checkIndex_8e157 ++ (v_J3_checkIndex_8e157_2 ++ ([]))))
theorem k_J0_checkIndex_df160 : GoodIn lw_tbl v_J0_checkIndex_df160 := gd_c (List.mem_of_getElem? (i := 279) (by decide +kernel)) rfl (goodIn_app (gd_c (List.mem_of_getElem? (i := 280) (by decide +kernel)) rfl (gd_c (List.mem_of_getElem? (i := 282) (by decide +kernel)) rfl (gd_c (List.mem_of_getElem? (i := 283) (by decide +kernel)) rfl (gd_c (List.mem_of_getElem? (i := 137) (by decide +kernel)) rfl (gd_nil))))) (goodIn_app k_J3_checkIndex_8e157 (goodIn_app k_J3_checkIndex_8e157_2 (gd_nil))))
set_option maxHeartbeats 600000 in
set_option maxRecDepth 100000 in
theorem c_J0_checkIndex_df160 (l : Launch) (dC : Nat → ClassId) (dI : Nat → Nat → Nat) (cB cI cJ cZ cP : ClassId) (ks : Nat) (vs : Nat) (fb : Nat → Int32) (k0 : Nat) (hk0 : k0 < 83) (sz : Nat) : Met l yJ0_checkIndex_df160 v_J0_checkIndex_df160 ({ frames := 1, cells := 0, slots := 0, locals := 22 }) (va_Pc [.int (nI k0), .int 83] (fun U => U.heap.size = sz ∧ va_P (dC, dI) vwCl [] U.heap ∧ va_K (dC, dI) vwCl (ty5 cB cI cJ cZ cP) U ∧ va_D (fun _ => True) [] ∧ SO ks vs fb (va_A [] sz) U U.heap)) (va_Qv (fun _ : Unit => True) (fun _ t => va_P (dC, dI) vwCl [] t.heap ∧ va_D (va_A [] sz) []) (va_A [] sz)) 0 0 (va_A [] sz) := by
  refine Met.ofW (cc := cJ0_checkIndex_df160) (maxL := 2) (ret := none) (by decide) rfl ?_
  intro p e s m args below meth c s₁ B hml hv
  obtain ⟨rfl, hsz, hP, hK, hD0, hN0⟩ := hv
  have hx := B.exec
  have hb := B.bytes
  have hr := B.returns
  have hts := atoms_spec (ws := v_J0_checkIndex_df160) B.pre
  have hown : s.vm.findClass RJ0 = some m.cls := findClass_of_methodNamed B.named
  have hlocks := B.notSynchronized
  subst hsz
  have hD := hD0.self (sz := s.heap.size)
  generalize hAe : va_A [] s.heap.size = A at hD hN0 ⊢
  have hA : ∀ q : Nat, s.heap.size ≤ q → A q := fun q h => by rw [← hAe]; exact Or.inr h
  have hP : va_P (dC, dI) vwCl [] s.heap := hP
  have hl := lv_entry ([.int (nI k0), .int 83]) (n := 2) (Nat.le_of_ble_eq_true rfl)
  rw [lg_entry_eq]
  generalize (lg_sl ([.int (nI k0), .int 83]) ++ List.replicate (2 - (lg_sl ([.int (nI k0), .int 83])).length) Slot.unset).toArray = ls at hl ⊢
  have hl : lv_has ls 2 [(0, .int (nI k0)), (1, .int 83)] := hl
  refine W_gen (A := A) hP (fun H locs hP hS => ?_)
  refine lv_iload_n hx hb dJ0_checkIndex_df160_0 rfl (lv_at hl 0 rfl) ?_
  refine lv_iload_n hx hb dJ0_checkIndex_df160_1 rfl (lv_at hl 1 rfl) ?_
  rcases hN0.2.2.2.2.2 with hz | ⟨t_1, hz⟩
  · refine va_gets (v := .null) hx hb hz hS hown (hts (.fieldLink RJ0 1053 "jdk/internal/util/Preconditions" "SIOOBE_FORMATTER" "Ljava/util/function/BiFunction;") (List.mem_of_getElem? (i := 1) rfl)) (fun _ h => h) dJ0_checkIndex_df160_2 ?_
    have hPc := hP.sub (ws' := []) [] rfl
    have hDc := hD.sub (ws' := []) [] (by decide) rfl
    have hFc := va_free (wc := []) hD hS hA [] rfl
    refine va_calli (va_runS (As := [.int (nI k0), .int 83, .null]) (rest := []) ⟨hx, hb, hml, hown, hts⟩ (c_J3_checkIndex_8e157 l dC dI cB cI cJ cZ cP k0 ((by omega)) H.size) (va_cwS 3 hts (gd_S (List.mem_of_getElem? (i := 2) rfl) (List.mem_of_getElem? (i := 3) rfl) (List.mem_of_getElem? (i := 4) rfl) (gd_mono k_J3_checkIndex_8e157 (fun _ h => List.mem_cons_of_mem _ (List.mem_append_right _ (List.mem_append_left _ h))))) rfl rfl rfl (by decide +kernel) ⟨Nat.le_of_ble_eq_true rfl, Nat.le_of_ble_eq_true rfl⟩) ⟨fun a U g mk q => by obtain ⟨q0, q1, qP, qK, qD⟩ := q; exact ⟨q0, q1, qP, va_K.moved (u := U) (U := U.calling g mk a) (Vm.Alike.refl U.vm) qK, qD⟩, fun U hU hW => ⟨rfl, by rw [hU], by rw [hU]; exact hPc, va_K.moved hW.alike hK, hDc.weaken (fun _ _ _ _ => trivial)⟩⟩ rfl rfl hl.1 rfl (lv_room (Nat.le_of_ble_eq_true rfl)) dJ0_checkIndex_df160_5 ⟨Nat.le_of_ble_eq_true rfl, Nat.le_of_ble_eq_true rfl⟩) hS (fun q _ h => hFc q h) hFc (fun r_2 u t H1 locs ht hvm hw hB hz1 hk1 hS => ?_)
    obtain ⟨hP1, hD1⟩ := hB
    rw [ht] at hP1
    obtain ⟨hP, hD⟩ := va_join (wr := []) (w1 := []) hP hD [] [] rfl rfl (by decide) (by decide) hk1 hFc hP1 hD1
    generalize H1 = H at hP hS ⊢
    have hP : va_P (dC, dI) vwCl [] H := hP
    have hD : va_D A [] := hD
    refine tp_v (.int (nI k0)) (congrArg Value.int hw) ?_
    refine lv_pop hx hb dJ0_checkIndex_df160_8 rfl ?_
    have hP9 := hP.sub (ws' := []) [] rfl
    have hD9 := hD.sub (ws' := []) [] (by decide) rfl
    exact W.vret hx hb hr (fun t ht hW => ⟨⟨(), rfl, trivial, ⟨by rw [ht]; exact hP9, hD9⟩⟩, hS.F ht⟩) hS.2.2 dJ0_checkIndex_df160_9
  · refine va_gets (v := .ref t_1) hx hb hz hS hown (hts (.fieldLink RJ0 1053 "jdk/internal/util/Preconditions" "SIOOBE_FORMATTER" "Ljava/util/function/BiFunction;") (List.mem_of_getElem? (i := 1) rfl)) (fun _ h => h) dJ0_checkIndex_df160_2 ?_
    have hPc := hP.sub (ws' := []) [] rfl
    have hDc := hD.sub (ws' := []) [] (by decide) rfl
    have hFc := va_free (wc := []) hD hS hA [] rfl
    refine va_calli (va_runS (As := [.int (nI k0), .int 83, .ref t_1]) (rest := []) ⟨hx, hb, hml, hown, hts⟩ (c_J3_checkIndex_8e157_2 l dC dI cB cI cJ cZ cP k0 ((by omega)) t_1 H.size) (va_cwS 3 hts (gd_S (List.mem_of_getElem? (i := 2) rfl) (List.mem_of_getElem? (i := 3) rfl) (List.mem_of_getElem? (i := 4) rfl) (gd_mono k_J3_checkIndex_8e157_2 (fun _ h => List.mem_cons_of_mem _ (List.mem_append_right _ (List.mem_append_right _ (List.mem_append_left _ h)))))) rfl rfl rfl (by decide +kernel) ⟨Nat.le_of_ble_eq_true rfl, Nat.le_of_ble_eq_true rfl⟩) ⟨fun a U g mk q => by obtain ⟨q0, q1, qP, qK, qD⟩ := q; exact ⟨q0, q1, qP, va_K.moved (u := U) (U := U.calling g mk a) (Vm.Alike.refl U.vm) qK, qD⟩, fun U hU hW => ⟨rfl, by rw [hU], by rw [hU]; exact hPc, va_K.moved hW.alike hK, hDc.weaken (fun _ _ _ _ => trivial)⟩⟩ rfl rfl hl.1 rfl (lv_room (Nat.le_of_ble_eq_true rfl)) dJ0_checkIndex_df160_5 ⟨Nat.le_of_ble_eq_true rfl, Nat.le_of_ble_eq_true rfl⟩) hS (fun q _ h => hFc q h) hFc (fun r_3 u t H1 locs ht hvm hw hB hz1 hk1 hS => ?_)
    obtain ⟨hP1, hD1⟩ := hB
    rw [ht] at hP1
    obtain ⟨hP, hD⟩ := va_join (wr := []) (w1 := []) hP hD [] [] rfl rfl (by decide) (by decide) hk1 hFc hP1 hD1
    generalize H1 = H at hP hS ⊢
    have hP : va_P (dC, dI) vwCl [] H := hP
    have hD : va_D A [] := hD
    refine tp_v (.int (nI k0)) (congrArg Value.int hw) ?_
    refine lv_pop hx hb dJ0_checkIndex_df160_8 rfl ?_
    have hP9 := hP.sub (ws' := []) [] rfl
    have hD9 := hD.sub (ws' := []) [] (by decide) rfl
    exact W.vret hx hb hr (fun t ht hW => ⟨⟨(), rfl, trivial, ⟨by rw [ht]; exact hP9, hD9⟩⟩, hS.F ht⟩) hS.2.2 dJ0_checkIndex_df160_9
def v_J1_charAt_3b067 : List Cond := Cond.code yJ1_charAt_3b067 cJ1_charAt_3b067 2 (some .char) :: ([Cond.methodLink RJ1 9 yJ0_checkIndex_df160, Cond.static yJ0_checkIndex_df160, Cond.initialized RJ0] ++ (v_J0_checkIndex_df160 ++ ([])))
theorem k_J1_charAt_3b067 : GoodIn lw_tbl v_J1_charAt_3b067 := gd_c (List.mem_of_getElem? (i := 276) (by decide +kernel)) rfl (goodIn_app (gd_c (List.mem_of_getElem? (i := 277) (by decide +kernel)) rfl (gd_c (List.mem_of_getElem? (i := 278) (by decide +kernel)) rfl (gd_c (List.mem_of_getElem? (i := 135) (by decide +kernel)) rfl (gd_nil)))) (goodIn_app k_J0_checkIndex_df160 (gd_nil)))
set_option maxHeartbeats 600000 in
set_option maxRecDepth 100000 in
theorem c_J1_charAt_3b067 (l : Launch) (dC : Nat → ClassId) (dI : Nat → Nat → Nat) (cB cI cJ cZ cP : ClassId) (ks : Nat) (vs : Nat) (fb : Nat → Int32) (k0 : Nat) (hk0 : k0 < 83) (sz : Nat) : Met l yJ1_charAt_3b067 v_J1_charAt_3b067 ({ frames := 2, cells := 0, slots := 0, locals := 43 }) (va_Pc [.ref vs, .int (nI k0)] (fun U => U.heap.size = sz ∧ va_P (dC, dI) vwCl [] U.heap ∧ va_K (dC, dI) vwCl (ty5 cB cI cJ cZ cP) U ∧ va_D (fun _ => True) [] ∧ SO ks vs fb (va_A [] sz) U U.heap)) (va_Qi (fun (r : Int32) (_ : Unit) => narrow .char (.int r) = .int r) (fun _ t => va_P (dC, dI) vwCl [] t.heap ∧ va_D (va_A [] sz) []) (va_A [] sz)) 0 0 (va_A [] sz) := by
  refine Met.ofW (cc := cJ1_charAt_3b067) (maxL := 2) (ret := (some .char)) (by decide) rfl ?_
  intro p e s m args below meth c s₁ B hml hv
  obtain ⟨rfl, hsz, hP, hK, hD0, hN0⟩ := hv
  have hx := B.exec
  have hb := B.bytes
  have hr := B.returns
  have hts := atoms_spec (ws := v_J1_charAt_3b067) B.pre
  have hown : s.vm.findClass RJ1 = some m.cls := findClass_of_methodNamed B.named
  have hlocks := B.notSynchronized
  subst hsz
  have hD := hD0.self (sz := s.heap.size)
  generalize hAe : va_A [] s.heap.size = A at hD hN0 ⊢
  have hA : ∀ q : Nat, s.heap.size ≤ q → A q := fun q h => by rw [← hAe]; exact Or.inr h
  have hP : va_P (dC, dI) vwCl [] s.heap := hP
  have hl := lv_entry ([.ref vs, .int (nI k0)]) (n := 2) (Nat.le_of_ble_eq_true rfl)
  rw [lg_entry_eq]
  generalize (lg_sl ([.ref vs, .int (nI k0)]) ++ List.replicate (2 - (lg_sl ([.ref vs, .int (nI k0)])).length) Slot.unset).toArray = ls at hl ⊢
  have hl : lv_has ls 2 [(0, .ref vs), (1, .int (nI k0))] := hl
  refine W_gen (A := A) hP (fun H locs hP hS => ?_)
  refine lv_iload_n hx hb dJ1_charAt_3b067_0 rfl (lv_at hl 1 rfl) ?_
  refine lv_aload_n hx hb dJ1_charAt_3b067_1 rfl (lv_at hl 0 rfl) ?_
  refine va_tlen (v := 83) hx hb hN0.2.2.2.1 hS (by decide) dJ1_charAt_3b067_2 ?_
  have hPc := hP.sub (ws' := []) [] rfl
  have hDc := hD.sub (ws' := []) [] (by decide) rfl
  have hFc := va_free (wc := []) hD hS hA [] rfl
  refine va_callv (va_runS (As := [.int (nI k0), .int 83]) (rest := []) ⟨hx, hb, hml, hown, hts⟩ (c_J0_checkIndex_df160 l dC dI cB cI cJ cZ cP ks vs fb k0 ((by omega)) H.size) (va_cwS 2 hts (gd_S (List.mem_of_getElem? (i := 1) rfl) (List.mem_of_getElem? (i := 2) rfl) (List.mem_of_getElem? (i := 3) rfl) (gd_mono k_J0_checkIndex_df160 (fun _ h => List.mem_cons_of_mem _ (List.mem_append_right _ (List.mem_append_left _ h))))) rfl rfl rfl (by decide +kernel) ⟨Nat.le_of_ble_eq_true rfl, Nat.le_of_ble_eq_true rfl⟩) ⟨fun a U g mk q => by obtain ⟨q0, q1, qP, qK, qD, qN0⟩ := q; exact ⟨q0, q1, qP, va_K.moved (u := U) (U := U.calling g mk a) (Vm.Alike.refl U.vm) qK, qD, SO_moved (u := U) (U := U.calling g mk a) (Vm.Alike.refl U.vm) qN0⟩, fun U hU hW => ⟨rfl, by rw [hU], by rw [hU]; exact hPc, va_K.moved hW.alike hK, hDc.weaken (fun _ _ _ _ => trivial), by rw [hU]; exact SO_moved hW.alike (SO_narrow (SO_kept hN0 hS.2.1) hFc)⟩⟩ rfl rfl hl.1 rfl (lv_room (Nat.le_of_ble_eq_true rfl)) dJ1_charAt_3b067_3 ⟨Nat.le_of_ble_eq_true rfl, Nat.le_of_ble_eq_true rfl⟩) hS (fun q _ h => hFc q h) hFc (fun u t H1 locs ht hvm hw hB hz1 hk1 hS => ?_)
  obtain ⟨hP1, hD1⟩ := hB
  rw [ht] at hP1
  obtain ⟨hP, hD⟩ := va_join (wr := []) (w1 := []) hP hD [] [] rfl rfl (by decide) (by decide) hk1 hFc hP1 hD1
  generalize H1 = H at hP hS ⊢
  have hP : va_P (dC, dI) vwCl [] H := hP
  have hD : va_D A [] := hD
  refine lv_aload_n hx hb dJ1_charAt_3b067_6 rfl (lv_at hl 0 rfl) ?_
  refine lv_iload_n hx hb dJ1_charAt_3b067_7 rfl (lv_at hl 1 rfl) ?_
  refine va_tb (v := .int (fb ((nI k0) : Int32).toNatClampNeg)) hx hb hN0.2.2.2.1 hS (vp_in_nI (by omega) (by decide)) rfl dJ1_charAt_3b067_8 ?_
  refine lv_sipush (v := 255) hx hb dJ1_charAt_3b067_9 (by decide) ?_
  refine lv_iand hx hb dJ1_charAt_3b067_12 ?_
  refine lv_i2c (v := ((((fb ((nI k0) : Int32).toNatClampNeg) &&& 255).toUInt32 % 65536).toInt32)) hx hb dJ1_charAt_3b067_13 rfl ?_
  have hP9 := hP.sub (ws' := []) [] rfl
  have hD9 := hD.sub (ws' := []) [] (by decide) rfl
  exact W.zret (v := ((((fb ((nI k0) : Int32).toNatClampNeg) &&& 255).toUInt32 % 65536).toInt32)) hx hb hr (pk_nc _) (fun t ht hW => ⟨⟨((((fb ((nI k0) : Int32).toNatClampNeg) &&& 255).toUInt32 % 65536).toInt32), (), rfl, pk_nc _, ⟨by rw [ht]; exact hP9, hD9⟩⟩, hS.F ht⟩) hS.2.2 dJ1_charAt_3b067_14
def v_J0_charAt_5068e : List Cond := Cond.code yJ0_charAt_5068e cJ0_charAt_5068e 2 (some .char) :: ([Cond.methodLink RJ0 492 yJ0_isLatin1_aae02, Cond.instanceMethod yJ0_isLatin1_aae02, Cond.selects RJ0 yJ0_isLatin1_aae02 yJ0_isLatin1_aae02, Cond.initialized RJ0, Cond.fieldLink RJ0 9 "java/lang/String" "value" "[B", Cond.methodLink RJ0 495 yJ1_charAt_3b067, Cond.static yJ1_charAt_3b067, Cond.initialized RJ1] ++ (v_J0_isLatin1_aae02 ++ (v_J1_charAt_3b067 ++ ([]))))
theorem k_J0_charAt_5068e : GoodIn lw_tbl v_J0_charAt_5068e := gd_c (List.mem_of_getElem? (i := 269) (by decide +kernel)) rfl (goodIn_app (gd_c (List.mem_of_getElem? (i := 270) (by decide +kernel)) rfl (gd_c (List.mem_of_getElem? (i := 271) (by decide +kernel)) rfl (gd_c (List.mem_of_getElem? (i := 272) (by decide +kernel)) rfl (gd_c (List.mem_of_getElem? (i := 135) (by decide +kernel)) rfl (gd_c (List.mem_of_getElem? (i := 1870) (by decide +kernel)) rfl (gd_c (List.mem_of_getElem? (i := 274) (by decide +kernel)) rfl (gd_c (List.mem_of_getElem? (i := 275) (by decide +kernel)) rfl (gd_c (List.mem_of_getElem? (i := 136) (by decide +kernel)) rfl (gd_nil))))))))) (goodIn_app k_J0_isLatin1_aae02 (goodIn_app k_J1_charAt_3b067 (gd_nil))))
set_option maxHeartbeats 600000 in
set_option maxRecDepth 100000 in
theorem c_J0_charAt_5068e (l : Launch) (dC : Nat → ClassId) (dI : Nat → Nat → Nat) (cB cI cJ cZ cP : ClassId) (ks : Nat) (vs : Nat) (fb : Nat → Int32) (k0 : Nat) (hk0 : k0 < 83) (sz : Nat) : Met l yJ0_charAt_5068e v_J0_charAt_5068e ({ frames := 3, cells := 0, slots := 0, locals := 64 }) (va_Pc [.ref ks, .int (nI k0)] (fun U => U.heap.size = sz ∧ va_P (dC, dI) vwCl [] U.heap ∧ va_K (dC, dI) vwCl (ty5 cB cI cJ cZ cP) U ∧ va_D (fun _ => True) [] ∧ SO ks vs fb (va_A [] sz) U U.heap)) (va_Qi (fun (r : Int32) (_ : Unit) => narrow .char (.int r) = .int r) (fun _ t => va_P (dC, dI) vwCl [] t.heap ∧ va_D (va_A [] sz) []) (va_A [] sz)) 0 0 (va_A [] sz) := by
  refine Met.ofW (cc := cJ0_charAt_5068e) (maxL := 2) (ret := (some .char)) (by decide) rfl ?_
  intro p e s m args below meth c s₁ B hml hv
  obtain ⟨rfl, hsz, hP, hK, hD0, hN0⟩ := hv
  have hx := B.exec
  have hb := B.bytes
  have hr := B.returns
  have hts := atoms_spec (ws := v_J0_charAt_5068e) B.pre
  have hown : s.vm.findClass RJ0 = some m.cls := findClass_of_methodNamed B.named
  have hlocks := B.notSynchronized
  subst hsz
  have hD := hD0.self (sz := s.heap.size)
  generalize hAe : va_A [] s.heap.size = A at hD hN0 ⊢
  have hA : ∀ q : Nat, s.heap.size ≤ q → A q := fun q h => by rw [← hAe]; exact Or.inr h
  have hP : va_P (dC, dI) vwCl [] s.heap := hP
  have hl := lv_entry ([.ref ks, .int (nI k0)]) (n := 2) (Nat.le_of_ble_eq_true rfl)
  rw [lg_entry_eq]
  generalize (lg_sl ([.ref ks, .int (nI k0)]) ++ List.replicate (2 - (lg_sl ([.ref ks, .int (nI k0)])).length) Slot.unset).toArray = ls at hl ⊢
  have hl : lv_has ls 2 [(0, .ref ks), (1, .int (nI k0))] := hl
  refine W_gen (A := A) hP (fun H locs hP hS => ?_)
  refine lv_aload_n hx hb dJ0_charAt_5068e_0 rfl (lv_at hl 0 rfl) ?_
  have hPc := hP.sub (ws' := []) [] rfl
  have hDc := hD.sub (ws' := []) [] (by decide) rfl
  have hFc := va_free (wc := []) hD hS hA [] rfl
  refine va_calli (va_runV (As := []) (rest := []) ⟨hx, hb, hml, hown, hts⟩ (c_J0_isLatin1_aae02 l dC dI cB cI cJ cZ cP ks vs fb H.size) (cwV 0 hts (gd_V (List.mem_of_getElem? (i := 1) rfl) (List.mem_of_getElem? (i := 2) rfl) (List.mem_of_getElem? (i := 3) rfl) (List.mem_of_getElem? (i := 4) rfl) (gd_mono k_J0_isLatin1_aae02 (fun _ h => List.mem_cons_of_mem _ (List.mem_append_right _ (List.mem_append_left _ h))))) rfl rfl rfl (by decide +kernel) ⟨Nat.le_of_ble_eq_true rfl, Nat.le_of_ble_eq_true rfl⟩) ⟨fun a U g mk q => by obtain ⟨q0, q1, qP, qK, qD, qN0⟩ := q; exact ⟨q0, q1, qP, va_K.moved (u := U) (U := U.calling g mk a) (Vm.Alike.refl U.vm) qK, qD, SO_moved (u := U) (U := U.calling g mk a) (Vm.Alike.refl U.vm) qN0⟩, SO_recv hN0 hS, fun U hU hW => ⟨rfl, by rw [hU], by rw [hU]; exact hPc, va_K.moved hW.alike hK, hDc.weaken (fun _ _ _ _ => trivial), by rw [hU]; exact SO_moved hW.alike (SO_narrow (SO_kept hN0 hS.2.1) hFc)⟩⟩ rfl rfl hl.1 rfl (lv_room (Nat.le_of_ble_eq_true rfl)) dJ0_charAt_5068e_1 ⟨Nat.le_of_ble_eq_true rfl, Nat.le_of_ble_eq_true rfl⟩) hS (fun q _ h => hFc q h) hFc (fun r_1 u t H1 locs ht hvm hw hB hz1 hk1 hS => ?_)
  obtain ⟨hP1, hD1⟩ := hB
  rw [ht] at hP1
  obtain ⟨hP, hD⟩ := va_join (wr := []) (w1 := []) hP hD [] [] rfl rfl (by decide) (by decide) hk1 hFc hP1 hD1
  generalize H1 = H at hP hS ⊢
  have hP : va_P (dC, dI) vwCl [] H := hP
  have hD : va_D A [] := hD
  refine tp_v (.int 1) (congrArg Value.int hw) ?_
  refine lv_if_eq (tgt := 16) hx hb dJ0_charAt_5068e_4 (by decide) (fun cz => absurd cz (by decide)) (fun _ => ?_)
  refine lv_aload_n hx hb dJ0_charAt_5068e_7 rfl (lv_at hl 0 rfl) ?_
  refine vk_getf (v := .ref vs) hx hb hN0.2.2.1 hS hown (hts (.fieldLink RJ0 9 "java/lang/String" "value" "[B") (List.mem_of_getElem? (i := 5) rfl)) (fun _ h => h) dJ0_charAt_5068e_8 ?_
  refine lv_iload_n hx hb dJ0_charAt_5068e_11 rfl (lv_at hl 1 rfl) ?_
  have hPc := hP.sub (ws' := []) [] rfl
  have hDc := hD.sub (ws' := []) [] (by decide) rfl
  have hFc := va_free (wc := []) hD hS hA [] rfl
  refine va_calli (va_runS (As := [.ref vs, .int (nI k0)]) (rest := []) ⟨hx, hb, hml, hown, hts⟩ (c_J1_charAt_3b067 l dC dI cB cI cJ cZ cP ks vs fb k0 ((by omega)) H.size) (va_cwS 2 hts (gd_S (List.mem_of_getElem? (i := 6) rfl) (List.mem_of_getElem? (i := 7) rfl) (List.mem_of_getElem? (i := 8) rfl) (gd_mono k_J1_charAt_3b067 (fun _ h => List.mem_cons_of_mem _ (List.mem_append_right _ (List.mem_append_right _ (List.mem_append_left _ h)))))) rfl rfl rfl (by decide +kernel) ⟨Nat.le_of_ble_eq_true rfl, Nat.le_of_ble_eq_true rfl⟩) ⟨fun a U g mk q => by obtain ⟨q0, q1, qP, qK, qD, qN0⟩ := q; exact ⟨q0, q1, qP, va_K.moved (u := U) (U := U.calling g mk a) (Vm.Alike.refl U.vm) qK, qD, SO_moved (u := U) (U := U.calling g mk a) (Vm.Alike.refl U.vm) qN0⟩, fun U hU hW => ⟨rfl, by rw [hU], by rw [hU]; exact hPc, va_K.moved hW.alike hK, hDc.weaken (fun _ _ _ _ => trivial), by rw [hU]; exact SO_moved hW.alike (SO_narrow (SO_kept hN0 hS.2.1) hFc)⟩⟩ rfl rfl hl.1 rfl (lv_room (Nat.le_of_ble_eq_true rfl)) dJ0_charAt_5068e_12 ⟨Nat.le_of_ble_eq_true rfl, Nat.le_of_ble_eq_true rfl⟩) hS (fun q _ h => hFc q h) hFc (fun r_2 u t H1 locs ht hvm hw hB hz1 hk1 hS => ?_)
  obtain ⟨hP1, hD1⟩ := hB
  rw [ht] at hP1
  obtain ⟨hP, hD⟩ := va_join (wr := []) (w1 := []) hP hD [] [] rfl rfl (by decide) (by decide) hk1 hFc hP1 hD1
  generalize H1 = H at hP hS ⊢
  have hP : va_P (dC, dI) vwCl [] H := hP
  have hD : va_D A [] := hD
  have hw_r_2 : narrow .char (.int r_2) = .int r_2 := hw
  have hP9 := hP.sub (ws' := []) [] rfl
  have hD9 := hD.sub (ws' := []) [] (by decide) rfl
  exact W.zret (v := r_2) hx hb hr (hw_r_2) (fun t ht hW => ⟨⟨r_2, (), rfl, hw_r_2, ⟨by rw [ht]; exact hP9, hD9⟩⟩, hS.F ht⟩) hS.2.2 dJ0_charAt_5068e_15
def v_X3_init : List Cond := Cond.code yX3_init cX3_init 1 none :: ([Cond.methodLink RX3 3 objectInit, Cond.instanceMethod objectInit, Cond.code objectInit ⟨#[0xb1]⟩ 1 none, Cond.arrayClass .int, Cond.fieldLink RX3 9 "MayRings$Order" "houses" "[I", Cond.fieldLink RX3 15 "MayRings$Order" "size" "I"] ++ (wsX30 ++ ([])))
theorem k_X3_init : GoodIn lw_tbl v_X3_init := gd_c (List.mem_of_getElem? (i := 358) (by decide +kernel)) rfl (goodIn_app (gd_c (List.mem_of_getElem? (i := 359) (by decide +kernel)) rfl (gd_c (List.mem_of_getElem? (i := 155) (by decide +kernel)) rfl (gd_c (List.mem_of_getElem? (i := 156) (by decide +kernel)) rfl (gd_c (List.mem_of_getElem? (i := 206) (by decide +kernel)) rfl (gd_c (List.mem_of_getElem? (i := 360) (by decide +kernel)) rfl (gd_c (List.mem_of_getElem? (i := 363) (by decide +kernel)) rfl (gd_nil))))))) (goodIn_app kfX3 (gd_nil)))
set_option maxHeartbeats 600000 in
set_option maxRecDepth 100000 in
theorem c_X3_init (l : Launch) (dC : Nat → ClassId) (dI : Nat → Nat → Nat) (cB cI cJ cZ cP : ClassId) (h0 : Nat) (sz : Nat) : Met l yX3_init v_X3_init ({ frames := 1, cells := 1, slots := 9, locals := 22 }) (va_Pc [.ref h0] (fun U => U.heap.size = sz ∧ va_P (dC, dI) vwCl [(h0, .inr (3, [.null, .int 0]))] U.heap ∧ va_K (dC, dI) vwCl (ty5 cB cI cJ cZ cP) U ∧ va_D (fun _ => True) [(h0, .inr (3, [.null, .int 0]))])) (va_Qv (fun _ : Unit => True) (fun _ t => ∃ (e0 : Nat), va_P (dC, dI) vwCl [(h0, .inr (3, [.ref e0, .int 0])), (e0, .inl (cI, 9, .inl (fun _ => 0)))] t.heap ∧ va_D (va_A [(h0, .inr (3, [.null, .int 0]))] sz) [(h0, .inr (3, [.ref e0, .int 0])), (e0, .inl (cI, 9, .inl (fun _ => 0)))]) (va_A [(h0, .inr (3, [.null, .int 0]))] sz)) 1 9 (va_A [(h0, .inr (3, [.null, .int 0]))] sz) := by
  refine Met.ofW (cc := cX3_init) (maxL := 1) (ret := none) (by decide) rfl ?_
  intro p e s m args below meth c s₁ B hml hv
  obtain ⟨rfl, hsz, hP, hK, hD0⟩ := hv
  have hx := B.exec
  have hb := B.bytes
  have hr := B.returns
  have hts := atoms_spec (ws := v_X3_init) B.pre
  have hown : s.vm.findClass RX3 = some m.cls := findClass_of_methodNamed B.named
  have hlocks := B.notSynchronized
  have hin : meth.name = "<init>" := (name_of_methodNamed B.named B.method).1
  have hinX3 : ∀ w ∈ wsX30, w ∈ v_X3_init := fun _ h => List.mem_cons_of_mem _ (List.mem_append_right _ (List.mem_append_left _ h))
  subst hsz
  have hD := hD0.self (sz := s.heap.size)
  generalize hAe : va_A [(h0, .inr (3, [.null, .int 0]))] s.heap.size = A at hD ⊢
  have hA : ∀ q : Nat, s.heap.size ≤ q → A q := fun q h => by rw [← hAe]; exact Or.inr h
  have hP : va_P (dC, dI) vwCl [(h0, .inr (3, [.null, .int 0]))] s.heap := hP
  have hl := lv_entry ([.ref h0]) (n := 1) (Nat.le_of_ble_eq_true rfl)
  rw [lg_entry_eq]
  generalize (lg_sl ([.ref h0]) ++ List.replicate (1 - (lg_sl ([.ref h0])).length) Slot.unset).toArray = ls at hl ⊢
  have hl : lv_has ls 1 [(0, .ref h0)] := hl
  refine W_gen (A := A) hP (fun H locs hP hS => ?_)
  refine lv_aload_n hx hb dX3_init_0 rfl (lv_at hl 0 rfl) ?_
  refine W.objInit hx hb hown (hts (.methodLink RX3 3 objectInit) (List.mem_of_getElem? (i := 1) rfl)) (hts (.instanceMethod objectInit) (List.mem_of_getElem? (i := 2) rfl)) (hts (.code objectInit ⟨#[0xb1]⟩ 1 none) (List.mem_of_getElem? (i := 3) rfl)) rfl (by rw [hml]; exact hl.1) rfl dX3_init_1 (Nat.le_of_ble_eq_true rfl) (Nat.le_of_ble_eq_true rfl) ?_
  refine W.eq (g2 := F0 m 4 ls []) rfl ?_
  refine lv_aload_n hx hb dX3_init_4 rfl (lv_at hl 0 rfl) ?_
  refine lv_bipush (v := 9) hx hb dX3_init_5 (by decide) ?_
  refine nw_arr (atype := .int) (N' := 9) (a0 := (9, .inl (fun _ => 0))) (ty := .int) hx hb (hts (.arrayClass .int) (List.mem_of_getElem? (i := 4) rfl)) rfl hK hP hD hS hA 1 rfl (fun _ => rfl) (by decide +kernel) (by decide +kernel) (by decide +kernel) (Nat.le_of_ble_eq_true rfl) (Nat.le_of_ble_eq_true rfl) dX3_init_7 (fun q393 H hP hD hS => ?_)
  refine W.widen (k := 1) (n := 9) (Nat.le_of_ble_eq_true rfl) (Nat.le_of_ble_eq_true rfl) ?_
  have hP : va_P (dC, dI) vwCl [(h0, .inr (3, [.null, .int 0])), (q393, .inl (cI, 9, .inl (fun _ => 0)))] H := hP
  have hD : va_D A [(h0, .inr (3, [.null, .int 0])), (q393, .inl (cI, 9, .inl (fun _ => 0)))] := hD
  refine va_putF (D := (dC, dI)) (ci := 3) (v := .ref q393) (ty := .array .int) (C := RX3) (T := TX3) (N := 2) hx hb hts hinX3 tyX3 tyX3_ok nmX3 hown hK hP hD hS 0 rfl rfl 0 (by decide) (hts (.fieldLink RX3 9 "MayRings$Order" "houses" "[I") (List.mem_of_getElem? (i := 5) rfl)) (fun _ h9 => h9) rfl hin rfl (by decide +kernel) rfl rfl (Nat.le_of_ble_eq_true rfl) dX3_init_9 (fun H locs hP hD hS => ?_)
  have hP : va_P (dC, dI) vwCl [(h0, .inr (3, [.ref q393, .int 0])), (q393, .inl (cI, 9, .inl (fun _ => 0)))] H := hP
  have hD : va_D A [(h0, .inr (3, [.ref q393, .int 0])), (q393, .inl (cI, 9, .inl (fun _ => 0)))] := hD
  refine lv_aload_n hx hb dX3_init_12 rfl (lv_at hl 0 rfl) ?_
  refine lv_iconst (v := 0) hx hb dX3_init_13 (by decide) ?_
  refine va_put (D := (dC, dI)) (ci := 3) (v := .int 0) (ty := .int) (C := RX3) (T := TX3) (N := 2) hx hb hts hinX3 tyX3 tyX3_ok nmX3 hown hK hP hD hS 0 rfl rfl 1 (by decide) (hts (.fieldLink RX3 15 "MayRings$Order" "size" "I") (List.mem_of_getElem? (i := 6) rfl)) (fun _ h9 => h9) rfl (by decide +kernel) rfl rfl (Nat.le_of_ble_eq_true rfl) dX3_init_14 (fun H locs hP hD hS => ?_)
  have hP : va_P (dC, dI) vwCl [(h0, .inr (3, [.ref q393, .int 0])), (q393, .inl (cI, 9, .inl (fun _ => 0)))] H := hP
  have hD : va_D A [(h0, .inr (3, [.ref q393, .int 0])), (q393, .inl (cI, 9, .inl (fun _ => 0)))] := hD
  have hP9 := hP.sub (ws' := [(h0, .inr (3, [.ref q393, .int 0])), (q393, .inl (cI, 9, .inl (fun _ => 0)))]) [0, 1] rfl
  have hD9 := hD.sub (ws' := [(h0, .inr (3, [.ref q393, .int 0])), (q393, .inl (cI, 9, .inl (fun _ => 0)))]) [0, 1] (by decide) rfl
  refine W.widen (k := 1) (n := 9) (Nat.le_of_ble_eq_true rfl) (Nat.le_of_ble_eq_true rfl) ?_
  exact W.vret hx hb hr (fun t ht hW => ⟨⟨(), rfl, trivial, ⟨q393, by rw [ht]; exact hP9, hD9⟩⟩, hS.F ht⟩) hS.2.2 dX3_init_17
def v_X4_init : List Cond := Cond.code yX4_init cX4_init 1 none :: ([Cond.methodLink RX4 3 objectInit, Cond.instanceMethod objectInit, Cond.code objectInit ⟨#[0xb1]⟩ 1 none, Cond.arrayClass .int, Cond.fieldLink RX4 9 "MayRings$Past" "met" "[I", Cond.classLink RX4 15 RX3, Cond.instantiable RX3 2, Cond.initialized RX3, Cond.instanceMethod yX3_init, Cond.fieldLink RX4 18 "MayRings$Past" "standing" "LMayRings$Order;", Cond.fieldLink RX4 22 "MayRings$Past" "years" "I", Cond.fieldLink RX4 26 "MayRings$Past" "out" "I", Cond.fieldLink RX4 29 "MayRings$Past" "w" "I", Cond.fieldLink RX4 32 "MayRings$Past" "kept" "Z"] ++ (wsX30 ++ (wsX40 ++ (v_X3_init ++ ([])))))
theorem k_X4_init : GoodIn lw_tbl v_X4_init := gd_c (List.mem_of_getElem? (i := 352) (by decide +kernel)) rfl (goodIn_app (gd_c (List.mem_of_getElem? (i := 353) (by decide +kernel)) rfl (gd_c (List.mem_of_getElem? (i := 155) (by decide +kernel)) rfl (gd_c (List.mem_of_getElem? (i := 156) (by decide +kernel)) rfl (gd_c (List.mem_of_getElem? (i := 206) (by decide +kernel)) rfl (gd_c (List.mem_of_getElem? (i := 373) (by decide +kernel)) rfl (gd_c (List.mem_of_getElem? (i := 354) (by decide +kernel)) rfl (gd_c (List.mem_of_getElem? (i := 355) (by decide +kernel)) rfl (gd_c (List.mem_of_getElem? (i := 140) (by decide +kernel)) rfl (gd_c (List.mem_of_getElem? (i := 357) (by decide +kernel)) rfl (gd_c (List.mem_of_getElem? (i := 374) (by decide +kernel)) rfl (gd_c (List.mem_of_getElem? (i := 376) (by decide +kernel)) rfl (gd_c (List.mem_of_getElem? (i := 378) (by decide +kernel)) rfl (gd_c (List.mem_of_getElem? (i := 380) (by decide +kernel)) rfl (gd_c (List.mem_of_getElem? (i := 382) (by decide +kernel)) rfl (gd_nil))))))))))))))) (goodIn_app kfX3 (goodIn_app kfX4 (goodIn_app k_X3_init (gd_nil)))))
set_option maxHeartbeats 600000 in
set_option maxRecDepth 100000 in
theorem c_X4_init (l : Launch) (dC : Nat → ClassId) (dI : Nat → Nat → Nat) (cB cI cJ cZ cP : ClassId) (h0 : Nat) (sz : Nat) : Met l yX4_init v_X4_init ({ frames := 2, cells := 3, slots := 92, locals := 42 }) (va_Pc [.ref h0] (fun U => U.heap.size = sz ∧ va_P (dC, dI) vwCl [(h0, .inr (4, [.null, .null, .int 0, .int 0, .int 0, .int 0]))] U.heap ∧ va_K (dC, dI) vwCl (ty5 cB cI cJ cZ cP) U ∧ va_D (fun _ => True) [(h0, .inr (4, [.null, .null, .int 0, .int 0, .int 0, .int 0]))] ∧ va_Nw (.methodLinkNest "MayRings$Past" 17 yX3_init "MayRings") U)) (va_Qv (fun _ : Unit => True) (fun _ t => ∃ (e0 : Nat) (e1 : Nat) (e2 : Nat), va_P (dC, dI) vwCl [(h0, .inr (4, [.ref e0, .ref e1, .int 0, .int 0, .int 1, .int 0])), (e0, .inl (cI, 81, .inl (fun _ => 0))), (e1, .inr (3, [.ref e2, .int 0])), (e2, .inl (cI, 9, .inl (fun _ => 0)))] t.heap ∧ va_D (va_A [(h0, .inr (4, [.null, .null, .int 0, .int 0, .int 0, .int 0]))] sz) [(h0, .inr (4, [.ref e0, .ref e1, .int 0, .int 0, .int 1, .int 0])), (e0, .inl (cI, 81, .inl (fun _ => 0))), (e1, .inr (3, [.ref e2, .int 0])), (e2, .inl (cI, 9, .inl (fun _ => 0)))]) (va_A [(h0, .inr (4, [.null, .null, .int 0, .int 0, .int 0, .int 0]))] sz)) 3 92 (va_A [(h0, .inr (4, [.null, .null, .int 0, .int 0, .int 0, .int 0]))] sz) := by
  refine Met.ofW (cc := cX4_init) (maxL := 1) (ret := none) (by decide) rfl ?_
  intro p e s m args below meth c s₁ B hml hv
  obtain ⟨rfl, hsz, hP, hK, hD0, hN0⟩ := hv
  have hx := B.exec
  have hb := B.bytes
  have hr := B.returns
  have hts := atoms_spec (ws := v_X4_init) B.pre
  have hown : s.vm.findClass RX4 = some m.cls := findClass_of_methodNamed B.named
  have hlocks := B.notSynchronized
  have hin : meth.name = "<init>" := (name_of_methodNamed B.named B.method).1
  have hinX3 : ∀ w ∈ wsX30, w ∈ v_X4_init := fun _ h => List.mem_cons_of_mem _ (List.mem_append_right _ (List.mem_append_left _ h))
  have hinX4 : ∀ w ∈ wsX40, w ∈ v_X4_init := fun _ h => List.mem_cons_of_mem _ (List.mem_append_right _ (List.mem_append_right _ (List.mem_append_left _ h)))
  subst hsz
  have hD := hD0.self (sz := s.heap.size)
  generalize hAe : va_A [(h0, .inr (4, [.null, .null, .int 0, .int 0, .int 0, .int 0]))] s.heap.size = A at hD ⊢
  have hA : ∀ q : Nat, s.heap.size ≤ q → A q := fun q h => by rw [← hAe]; exact Or.inr h
  have hP : va_P (dC, dI) vwCl [(h0, .inr (4, [.null, .null, .int 0, .int 0, .int 0, .int 0]))] s.heap := hP
  have hl := lv_entry ([.ref h0]) (n := 1) (Nat.le_of_ble_eq_true rfl)
  rw [lg_entry_eq]
  generalize (lg_sl ([.ref h0]) ++ List.replicate (1 - (lg_sl ([.ref h0])).length) Slot.unset).toArray = ls at hl ⊢
  have hl : lv_has ls 1 [(0, .ref h0)] := hl
  refine W_gen (A := A) hP (fun H locs hP hS => ?_)
  refine lv_aload_n hx hb dX4_init_0 rfl (lv_at hl 0 rfl) ?_
  refine W.objInit hx hb hown (hts (.methodLink RX4 3 objectInit) (List.mem_of_getElem? (i := 1) rfl)) (hts (.instanceMethod objectInit) (List.mem_of_getElem? (i := 2) rfl)) (hts (.code objectInit ⟨#[0xb1]⟩ 1 none) (List.mem_of_getElem? (i := 3) rfl)) rfl (by rw [hml]; exact hl.1) rfl dX4_init_1 (Nat.le_of_ble_eq_true rfl) (Nat.le_of_ble_eq_true rfl) ?_
  refine W.eq (g2 := F0 m 4 ls []) rfl ?_
  refine lv_aload_n hx hb dX4_init_4 rfl (lv_at hl 0 rfl) ?_
  refine lv_bipush (v := 81) hx hb dX4_init_5 (by decide) ?_
  refine nw_arr (atype := .int) (N' := 81) (a0 := (81, .inl (fun _ => 0))) (ty := .int) hx hb (hts (.arrayClass .int) (List.mem_of_getElem? (i := 4) rfl)) rfl hK hP hD hS hA 1 rfl (fun _ => rfl) (by decide +kernel) (by decide +kernel) (by decide +kernel) (Nat.le_of_ble_eq_true rfl) (Nat.le_of_ble_eq_true rfl) dX4_init_7 (fun q395 H hP hD hS => ?_)
  refine W.widen (k := 1) (n := 81) (Nat.le_of_ble_eq_true rfl) (Nat.le_of_ble_eq_true rfl) ?_
  have hP : va_P (dC, dI) vwCl [(h0, .inr (4, [.null, .null, .int 0, .int 0, .int 0, .int 0])), (q395, .inl (cI, 81, .inl (fun _ => 0)))] H := hP
  have hD : va_D A [(h0, .inr (4, [.null, .null, .int 0, .int 0, .int 0, .int 0])), (q395, .inl (cI, 81, .inl (fun _ => 0)))] := hD
  refine va_putF (D := (dC, dI)) (ci := 4) (v := .ref q395) (ty := .array .int) (C := RX4) (T := TX4) (N := 6) hx hb hts hinX4 tyX4 tyX4_ok nmX4 hown hK hP hD hS 0 rfl rfl 0 (by decide) (hts (.fieldLink RX4 9 "MayRings$Past" "met" "[I") (List.mem_of_getElem? (i := 5) rfl)) (fun _ h9 => h9) rfl hin rfl (by decide +kernel) rfl rfl (Nat.le_of_ble_eq_true rfl) dX4_init_9 (fun H locs hP hD hS => ?_)
  have hP : va_P (dC, dI) vwCl [(h0, .inr (4, [.ref q395, .null, .int 0, .int 0, .int 0, .int 0])), (q395, .inl (cI, 81, .inl (fun _ => 0)))] H := hP
  have hD : va_D A [(h0, .inr (4, [.ref q395, .null, .int 0, .int 0, .int 0, .int 0])), (q395, .inl (cI, 81, .inl (fun _ => 0)))] := hD
  refine lv_aload_n hx hb dX4_init_12 rfl (lv_at hl 0 rfl) ?_
  refine va_new (ci := 3) (fs := [.null, .int 0]) (C := RX3) (T := TX3) (N := 2) hx hb hts hinX3 tyX3 tyX3_ok hown (hts (.classLink RX4 15 RX3) (List.mem_of_getElem? (i := 6) rfl)) (hts (.instantiable RX3 2) (List.mem_of_getElem? (i := 7) rfl)) (hts (.initialized RX3) (List.mem_of_getElem? (i := 8) rfl)) hK hP hD hS hA rfl (by decide) (Nat.le_of_ble_eq_true rfl) (Nat.le_of_ble_eq_true rfl) dX4_init_13 (fun q396 H hP hD hS => ?_)
  refine W.widen (k := 2) (n := 83) (Nat.le_of_ble_eq_true rfl) (Nat.le_of_ble_eq_true rfl) ?_
  have hP : va_P (dC, dI) vwCl [(h0, .inr (4, [.ref q395, .null, .int 0, .int 0, .int 0, .int 0])), (q395, .inl (cI, 81, .inl (fun _ => 0))), (q396, .inr (3, [.null, .int 0]))] H := hP
  have hD : va_D A [(h0, .inr (4, [.ref q395, .null, .int 0, .int 0, .int 0, .int 0])), (q395, .inl (cI, 81, .inl (fun _ => 0))), (q396, .inr (3, [.null, .int 0]))] := hD
  refine lv_dup hx hb dX4_init_16 rfl ?_
  have hPc := hP.sub (ws' := [(q396, .inr (3, [.null, .int 0]))]) [2] rfl
  have hDc := hD.sub (ws' := [(q396, .inr (3, [.null, .int 0]))]) [2] (by decide) rfl
  have hFc := va_free (wc := [(q396, .inr (3, [.null, .int 0]))]) hD hS hA [2] rfl
  refine va_callv (va_runIN (As := []) (rest := [.ref q396, .ref h0]) ⟨hx, hb, hml, hown, hts⟩ (c_X3_init l dC dI cB cI cJ cZ cP q396 H.size) ⟨va_cnB 0 hts (gd_mono k_X3_init (fun _ h => List.mem_cons_of_mem _ (List.mem_append_right _ (List.mem_append_right _ (List.mem_append_right _ (List.mem_append_left _ h)))))) rfl rfl rfl hN0 (hts (.initialized RX3) (List.mem_of_getElem? (i := 8) rfl)) (by decide +kernel) ⟨Nat.le_of_ble_eq_true rfl, Nat.le_of_ble_eq_true rfl⟩, rfl, (hts (.instanceMethod yX3_init) (List.mem_of_getElem? (i := 9) rfl))⟩ ⟨fun a U g mk q => by obtain ⟨q0, q1, qP, qK, qD⟩ := q; exact ⟨q0, q1, qP, va_K.moved (u := U) (U := U.calling g mk a) (Vm.Alike.refl U.vm) qK, qD⟩, fun U hU hW => ⟨rfl, by rw [hU], by rw [hU]; exact hPc, va_K.moved hW.alike hK, hDc.weaken (fun _ _ _ _ => trivial)⟩⟩ rfl rfl hl.1 rfl (lv_room (Nat.le_of_ble_eq_true rfl)) dX4_init_17 ⟨Nat.le_of_ble_eq_true rfl, Nat.le_of_ble_eq_true rfl⟩) hS (fun q _ h => hFc q h) hFc (fun u t H1 locs ht hvm hw hB hz1 hk1 hS => ?_)
  obtain ⟨q398, hP1, hD1⟩ := hB
  rw [ht] at hP1
  obtain ⟨hP, hD⟩ := va_join (wr := [(h0, .inr (4, [.ref q395, .null, .int 0, .int 0, .int 0, .int 0])), (q395, .inl (cI, 81, .inl (fun _ => 0)))]) (w1 := [(q396, .inr (3, [.ref q398, .int 0])), (q398, .inl (cI, 9, .inl (fun _ => 0)))]) hP hD [2] [0, 1] rfl rfl (by decide) (by decide) hk1 hFc hP1 hD1
  generalize H1 = H at hP hS ⊢
  have hP : va_P (dC, dI) vwCl [(h0, .inr (4, [.ref q395, .null, .int 0, .int 0, .int 0, .int 0])), (q395, .inl (cI, 81, .inl (fun _ => 0))), (q396, .inr (3, [.ref q398, .int 0])), (q398, .inl (cI, 9, .inl (fun _ => 0)))] H := hP
  have hD : va_D A [(h0, .inr (4, [.ref q395, .null, .int 0, .int 0, .int 0, .int 0])), (q395, .inl (cI, 81, .inl (fun _ => 0))), (q396, .inr (3, [.ref q398, .int 0])), (q398, .inl (cI, 9, .inl (fun _ => 0)))] := hD
  refine W.widen (k := 3) (n := 92) (Nat.le_of_ble_eq_true rfl) (Nat.le_of_ble_eq_true rfl) ?_
  refine va_putF (D := (dC, dI)) (ci := 4) (v := .ref q396) (ty := .object "MayRings$Order") (C := RX4) (T := TX4) (N := 6) hx hb hts hinX4 tyX4 tyX4_ok nmX4 hown hK hP hD hS 0 rfl rfl 1 (by decide) (hts (.fieldLink RX4 18 "MayRings$Past" "standing" "LMayRings$Order;") (List.mem_of_getElem? (i := 10) rfl)) (fun _ h9 => h9) rfl hin rfl (by decide +kernel) rfl rfl (Nat.le_of_ble_eq_true rfl) dX4_init_20 (fun H locs hP hD hS => ?_)
  have hP : va_P (dC, dI) vwCl [(h0, .inr (4, [.ref q395, .ref q396, .int 0, .int 0, .int 0, .int 0])), (q395, .inl (cI, 81, .inl (fun _ => 0))), (q396, .inr (3, [.ref q398, .int 0])), (q398, .inl (cI, 9, .inl (fun _ => 0)))] H := hP
  have hD : va_D A [(h0, .inr (4, [.ref q395, .ref q396, .int 0, .int 0, .int 0, .int 0])), (q395, .inl (cI, 81, .inl (fun _ => 0))), (q396, .inr (3, [.ref q398, .int 0])), (q398, .inl (cI, 9, .inl (fun _ => 0)))] := hD
  refine lv_aload_n hx hb dX4_init_23 rfl (lv_at hl 0 rfl) ?_
  refine lv_iconst (v := 0) hx hb dX4_init_24 (by decide) ?_
  refine va_put (D := (dC, dI)) (ci := 4) (v := .int 0) (ty := .int) (C := RX4) (T := TX4) (N := 6) hx hb hts hinX4 tyX4 tyX4_ok nmX4 hown hK hP hD hS 0 rfl rfl 2 (by decide) (hts (.fieldLink RX4 22 "MayRings$Past" "years" "I") (List.mem_of_getElem? (i := 11) rfl)) (fun _ h9 => h9) rfl (by decide +kernel) rfl rfl (Nat.le_of_ble_eq_true rfl) dX4_init_25 (fun H locs hP hD hS => ?_)
  have hP : va_P (dC, dI) vwCl [(h0, .inr (4, [.ref q395, .ref q396, .int 0, .int 0, .int 0, .int 0])), (q395, .inl (cI, 81, .inl (fun _ => 0))), (q396, .inr (3, [.ref q398, .int 0])), (q398, .inl (cI, 9, .inl (fun _ => 0)))] H := hP
  have hD : va_D A [(h0, .inr (4, [.ref q395, .ref q396, .int 0, .int 0, .int 0, .int 0])), (q395, .inl (cI, 81, .inl (fun _ => 0))), (q396, .inr (3, [.ref q398, .int 0])), (q398, .inl (cI, 9, .inl (fun _ => 0)))] := hD
  refine lv_aload_n hx hb dX4_init_28 rfl (lv_at hl 0 rfl) ?_
  refine lv_iconst (v := 0) hx hb dX4_init_29 (by decide) ?_
  refine va_put (D := (dC, dI)) (ci := 4) (v := .int 0) (ty := .int) (C := RX4) (T := TX4) (N := 6) hx hb hts hinX4 tyX4 tyX4_ok nmX4 hown hK hP hD hS 0 rfl rfl 3 (by decide) (hts (.fieldLink RX4 26 "MayRings$Past" "out" "I") (List.mem_of_getElem? (i := 12) rfl)) (fun _ h9 => h9) rfl (by decide +kernel) rfl rfl (Nat.le_of_ble_eq_true rfl) dX4_init_30 (fun H locs hP hD hS => ?_)
  have hP : va_P (dC, dI) vwCl [(h0, .inr (4, [.ref q395, .ref q396, .int 0, .int 0, .int 0, .int 0])), (q395, .inl (cI, 81, .inl (fun _ => 0))), (q396, .inr (3, [.ref q398, .int 0])), (q398, .inl (cI, 9, .inl (fun _ => 0)))] H := hP
  have hD : va_D A [(h0, .inr (4, [.ref q395, .ref q396, .int 0, .int 0, .int 0, .int 0])), (q395, .inl (cI, 81, .inl (fun _ => 0))), (q396, .inr (3, [.ref q398, .int 0])), (q398, .inl (cI, 9, .inl (fun _ => 0)))] := hD
  refine lv_aload_n hx hb dX4_init_33 rfl (lv_at hl 0 rfl) ?_
  refine lv_iconst (v := 1) hx hb dX4_init_34 (by decide) ?_
  refine va_put (D := (dC, dI)) (ci := 4) (v := .int 1) (ty := .int) (C := RX4) (T := TX4) (N := 6) hx hb hts hinX4 tyX4 tyX4_ok nmX4 hown hK hP hD hS 0 rfl rfl 4 (by decide) (hts (.fieldLink RX4 29 "MayRings$Past" "w" "I") (List.mem_of_getElem? (i := 13) rfl)) (fun _ h9 => h9) rfl (by decide +kernel) rfl rfl (Nat.le_of_ble_eq_true rfl) dX4_init_35 (fun H locs hP hD hS => ?_)
  have hP : va_P (dC, dI) vwCl [(h0, .inr (4, [.ref q395, .ref q396, .int 0, .int 0, .int 1, .int 0])), (q395, .inl (cI, 81, .inl (fun _ => 0))), (q396, .inr (3, [.ref q398, .int 0])), (q398, .inl (cI, 9, .inl (fun _ => 0)))] H := hP
  have hD : va_D A [(h0, .inr (4, [.ref q395, .ref q396, .int 0, .int 0, .int 1, .int 0])), (q395, .inl (cI, 81, .inl (fun _ => 0))), (q396, .inr (3, [.ref q398, .int 0])), (q398, .inl (cI, 9, .inl (fun _ => 0)))] := hD
  refine lv_aload_n hx hb dX4_init_38 rfl (lv_at hl 0 rfl) ?_
  refine lv_iconst (v := 0) hx hb dX4_init_39 (by decide) ?_
  refine va_put (D := (dC, dI)) (ci := 4) (v := .int 0) (ty := .boolean) (C := RX4) (T := TX4) (N := 6) hx hb hts hinX4 tyX4 tyX4_ok nmX4 hown hK hP hD hS 0 rfl rfl 5 (by decide) (hts (.fieldLink RX4 32 "MayRings$Past" "kept" "Z") (List.mem_of_getElem? (i := 14) rfl)) (fun _ h9 => h9) rfl (by decide +kernel) rfl rfl (Nat.le_of_ble_eq_true rfl) dX4_init_40 (fun H locs hP hD hS => ?_)
  have hP : va_P (dC, dI) vwCl [(h0, .inr (4, [.ref q395, .ref q396, .int 0, .int 0, .int 1, .int 0])), (q395, .inl (cI, 81, .inl (fun _ => 0))), (q396, .inr (3, [.ref q398, .int 0])), (q398, .inl (cI, 9, .inl (fun _ => 0)))] H := hP
  have hD : va_D A [(h0, .inr (4, [.ref q395, .ref q396, .int 0, .int 0, .int 1, .int 0])), (q395, .inl (cI, 81, .inl (fun _ => 0))), (q396, .inr (3, [.ref q398, .int 0])), (q398, .inl (cI, 9, .inl (fun _ => 0)))] := hD
  have hP9 := hP.sub (ws' := [(h0, .inr (4, [.ref q395, .ref q396, .int 0, .int 0, .int 1, .int 0])), (q395, .inl (cI, 81, .inl (fun _ => 0))), (q396, .inr (3, [.ref q398, .int 0])), (q398, .inl (cI, 9, .inl (fun _ => 0)))]) [0, 1, 2, 3] rfl
  have hD9 := hD.sub (ws' := [(h0, .inr (4, [.ref q395, .ref q396, .int 0, .int 0, .int 1, .int 0])), (q395, .inl (cI, 81, .inl (fun _ => 0))), (q396, .inr (3, [.ref q398, .int 0])), (q398, .inl (cI, 9, .inl (fun _ => 0)))]) [0, 1, 2, 3] (by decide) rfl
  refine W.widen (k := 3) (n := 92) (Nat.le_of_ble_eq_true rfl) (Nat.le_of_ble_eq_true rfl) ?_
  exact W.vret hx hb hr (fun t ht hW => ⟨⟨(), rfl, trivial, ⟨q395, q396, q398, by rw [ht]; exact hP9, hD9⟩⟩, hS.F ht⟩) hS.2.2 dX4_init_43
def v_X0_init : List Cond := Cond.code yX0_init cX0_init 1 none :: ([Cond.methodLink RX0 3 objectInit, Cond.instanceMethod objectInit, Cond.code objectInit ⟨#[0xb1]⟩ 1 none, Cond.arrayClass .int, Cond.fieldLink RX0 11 "MayRings$Families" "sets" "[I", Cond.fieldLink RX0 15 "MayRings$Families" "orders" "[I", Cond.fieldLink RX0 18 "MayRings$Families" "rest" "[I", Cond.fieldLink RX0 21 "MayRings$Families" "slots" "[I", Cond.fieldLink RX0 24 "MayRings$Families" "bits" "[I", Cond.fieldLink RX0 27 "MayRings$Families" "twins" "[I", Cond.fieldLink RX0 30 "MayRings$Families" "count" "I", Cond.fieldLink RX0 34 "MayRings$Families" "restCount" "I", Cond.fieldLink RX0 37 "MayRings$Families" "size" "I", Cond.fieldLink RX0 40 "MayRings$Families" "union" "I"] ++ (wsX00 ++ ([])))
theorem k_X0_init : GoodIn lw_tbl v_X0_init := gd_c (List.mem_of_getElem? (i := 498) (by decide +kernel)) rfl (goodIn_app (gd_c (List.mem_of_getElem? (i := 499) (by decide +kernel)) rfl (gd_c (List.mem_of_getElem? (i := 155) (by decide +kernel)) rfl (gd_c (List.mem_of_getElem? (i := 156) (by decide +kernel)) rfl (gd_c (List.mem_of_getElem? (i := 206) (by decide +kernel)) rfl (gd_c (List.mem_of_getElem? (i := 500) (by decide +kernel)) rfl (gd_c (List.mem_of_getElem? (i := 501) (by decide +kernel)) rfl (gd_c (List.mem_of_getElem? (i := 502) (by decide +kernel)) rfl (gd_c (List.mem_of_getElem? (i := 503) (by decide +kernel)) rfl (gd_c (List.mem_of_getElem? (i := 504) (by decide +kernel)) rfl (gd_c (List.mem_of_getElem? (i := 505) (by decide +kernel)) rfl (gd_c (List.mem_of_getElem? (i := 506) (by decide +kernel)) rfl (gd_c (List.mem_of_getElem? (i := 507) (by decide +kernel)) rfl (gd_c (List.mem_of_getElem? (i := 508) (by decide +kernel)) rfl (gd_c (List.mem_of_getElem? (i := 509) (by decide +kernel)) rfl (gd_nil))))))))))))))) (goodIn_app kfX0 (gd_nil)))
set_option maxHeartbeats 600000 in
set_option maxRecDepth 100000 in
theorem c_X0_init (l : Launch) (dC : Nat → ClassId) (dI : Nat → Nat → Nat) (cB cI cJ cZ cP : ClassId) (h0 : Nat) (sz : Nat) : Met l yX0_init v_X0_init ({ frames := 1, cells := 6, slots := 11746, locals := 22 }) (va_Pc [.ref h0] (fun U => U.heap.size = sz ∧ va_P (dC, dI) vwCl [(h0, .inr (0, [.null, .null, .null, .null, .null, .null, .int 0, .int 0, .int 0, .int 0]))] U.heap ∧ va_K (dC, dI) vwCl (ty5 cB cI cJ cZ cP) U ∧ va_D (fun _ => True) [(h0, .inr (0, [.null, .null, .null, .null, .null, .null, .int 0, .int 0, .int 0, .int 0]))])) (va_Qv (fun _ : Unit => True) (fun _ t => ∃ (e0 : Nat) (e1 : Nat) (e2 : Nat) (e3 : Nat) (e4 : Nat) (e5 : Nat), va_P (dC, dI) vwCl [(h0, .inr (0, [.ref e0, .ref e1, .ref e2, .ref e3, .ref e4, .ref e5, .int 0, .int 0, .int 0, .int 0])), (e0, .inl (cI, 2520, .inl (fun _ => 0))), (e1, .inl (cI, 2520, .inl (fun _ => 0))), (e2, .inl (cI, 2520, .inl (fun _ => 0))), (e3, .inl (cI, 4096, .inl (fun _ => 0))), (e4, .inl (cI, 81, .inl (fun _ => 0))), (e5, .inl (cI, 9, .inl (fun _ => 0)))] t.heap ∧ va_D (va_A [(h0, .inr (0, [.null, .null, .null, .null, .null, .null, .int 0, .int 0, .int 0, .int 0]))] sz) [(h0, .inr (0, [.ref e0, .ref e1, .ref e2, .ref e3, .ref e4, .ref e5, .int 0, .int 0, .int 0, .int 0])), (e0, .inl (cI, 2520, .inl (fun _ => 0))), (e1, .inl (cI, 2520, .inl (fun _ => 0))), (e2, .inl (cI, 2520, .inl (fun _ => 0))), (e3, .inl (cI, 4096, .inl (fun _ => 0))), (e4, .inl (cI, 81, .inl (fun _ => 0))), (e5, .inl (cI, 9, .inl (fun _ => 0)))]) (va_A [(h0, .inr (0, [.null, .null, .null, .null, .null, .null, .int 0, .int 0, .int 0, .int 0]))] sz)) 6 11746 (va_A [(h0, .inr (0, [.null, .null, .null, .null, .null, .null, .int 0, .int 0, .int 0, .int 0]))] sz) := by
  refine Met.ofW (cc := cX0_init) (maxL := 1) (ret := none) (by decide) rfl ?_
  intro p e s m args below meth c s₁ B hml hv
  obtain ⟨rfl, hsz, hP, hK, hD0⟩ := hv
  have hx := B.exec
  have hb := B.bytes
  have hr := B.returns
  have hts := atoms_spec (ws := v_X0_init) B.pre
  have hown : s.vm.findClass RX0 = some m.cls := findClass_of_methodNamed B.named
  have hlocks := B.notSynchronized
  have hin : meth.name = "<init>" := (name_of_methodNamed B.named B.method).1
  have hinX0 : ∀ w ∈ wsX00, w ∈ v_X0_init := fun _ h => List.mem_cons_of_mem _ (List.mem_append_right _ (List.mem_append_left _ h))
  subst hsz
  have hD := hD0.self (sz := s.heap.size)
  generalize hAe : va_A [(h0, .inr (0, [.null, .null, .null, .null, .null, .null, .int 0, .int 0, .int 0, .int 0]))] s.heap.size = A at hD ⊢
  have hA : ∀ q : Nat, s.heap.size ≤ q → A q := fun q h => by rw [← hAe]; exact Or.inr h
  have hP : va_P (dC, dI) vwCl [(h0, .inr (0, [.null, .null, .null, .null, .null, .null, .int 0, .int 0, .int 0, .int 0]))] s.heap := hP
  have hl := lv_entry ([.ref h0]) (n := 1) (Nat.le_of_ble_eq_true rfl)
  rw [lg_entry_eq]
  generalize (lg_sl ([.ref h0]) ++ List.replicate (1 - (lg_sl ([.ref h0])).length) Slot.unset).toArray = ls at hl ⊢
  have hl : lv_has ls 1 [(0, .ref h0)] := hl
  refine W_gen (A := A) hP (fun H locs hP hS => ?_)
  refine lv_aload_n hx hb dX0_init_0 rfl (lv_at hl 0 rfl) ?_
  refine W.objInit hx hb hown (hts (.methodLink RX0 3 objectInit) (List.mem_of_getElem? (i := 1) rfl)) (hts (.instanceMethod objectInit) (List.mem_of_getElem? (i := 2) rfl)) (hts (.code objectInit ⟨#[0xb1]⟩ 1 none) (List.mem_of_getElem? (i := 3) rfl)) rfl (by rw [hml]; exact hl.1) rfl dX0_init_1 (Nat.le_of_ble_eq_true rfl) (Nat.le_of_ble_eq_true rfl) ?_
  refine W.eq (g2 := F0 m 4 ls []) rfl ?_
  refine lv_aload_n hx hb dX0_init_4 rfl (lv_at hl 0 rfl) ?_
  refine lv_sipush (v := 2520) hx hb dX0_init_5 (by decide) ?_
  refine nw_arr (atype := .int) (N' := 2520) (a0 := (2520, .inl (fun _ => 0))) (ty := .int) hx hb (hts (.arrayClass .int) (List.mem_of_getElem? (i := 4) rfl)) rfl hK hP hD hS hA 1 rfl (fun _ => rfl) (by decide +kernel) (by decide +kernel) (by decide +kernel) (Nat.le_of_ble_eq_true rfl) (Nat.le_of_ble_eq_true rfl) dX0_init_8 (fun q401 H hP hD hS => ?_)
  refine W.widen (k := 1) (n := 2520) (Nat.le_of_ble_eq_true rfl) (Nat.le_of_ble_eq_true rfl) ?_
  have hP : va_P (dC, dI) vwCl [(h0, .inr (0, [.null, .null, .null, .null, .null, .null, .int 0, .int 0, .int 0, .int 0])), (q401, .inl (cI, 2520, .inl (fun _ => 0)))] H := hP
  have hD : va_D A [(h0, .inr (0, [.null, .null, .null, .null, .null, .null, .int 0, .int 0, .int 0, .int 0])), (q401, .inl (cI, 2520, .inl (fun _ => 0)))] := hD
  refine va_putF (D := (dC, dI)) (ci := 0) (v := .ref q401) (ty := .array .int) (C := RX0) (T := TX0) (N := 10) hx hb hts hinX0 tyX0 tyX0_ok nmX0 hown hK hP hD hS 0 rfl rfl 0 (by decide) (hts (.fieldLink RX0 11 "MayRings$Families" "sets" "[I") (List.mem_of_getElem? (i := 5) rfl)) (fun _ h9 => h9) rfl hin rfl (by decide +kernel) rfl rfl (Nat.le_of_ble_eq_true rfl) dX0_init_10 (fun H locs hP hD hS => ?_)
  have hP : va_P (dC, dI) vwCl [(h0, .inr (0, [.ref q401, .null, .null, .null, .null, .null, .int 0, .int 0, .int 0, .int 0])), (q401, .inl (cI, 2520, .inl (fun _ => 0)))] H := hP
  have hD : va_D A [(h0, .inr (0, [.ref q401, .null, .null, .null, .null, .null, .int 0, .int 0, .int 0, .int 0])), (q401, .inl (cI, 2520, .inl (fun _ => 0)))] := hD
  refine lv_aload_n hx hb dX0_init_13 rfl (lv_at hl 0 rfl) ?_
  refine lv_sipush (v := 2520) hx hb dX0_init_14 (by decide) ?_
  refine nw_arr (atype := .int) (N' := 2520) (a0 := (2520, .inl (fun _ => 0))) (ty := .int) hx hb (hts (.arrayClass .int) (List.mem_of_getElem? (i := 4) rfl)) rfl hK hP hD hS hA 1 rfl (fun _ => rfl) (by decide +kernel) (by decide +kernel) (by decide +kernel) (Nat.le_of_ble_eq_true rfl) (Nat.le_of_ble_eq_true rfl) dX0_init_17 (fun q402 H hP hD hS => ?_)
  refine W.widen (k := 2) (n := 5040) (Nat.le_of_ble_eq_true rfl) (Nat.le_of_ble_eq_true rfl) ?_
  have hP : va_P (dC, dI) vwCl [(h0, .inr (0, [.ref q401, .null, .null, .null, .null, .null, .int 0, .int 0, .int 0, .int 0])), (q401, .inl (cI, 2520, .inl (fun _ => 0))), (q402, .inl (cI, 2520, .inl (fun _ => 0)))] H := hP
  have hD : va_D A [(h0, .inr (0, [.ref q401, .null, .null, .null, .null, .null, .int 0, .int 0, .int 0, .int 0])), (q401, .inl (cI, 2520, .inl (fun _ => 0))), (q402, .inl (cI, 2520, .inl (fun _ => 0)))] := hD
  refine va_putF (D := (dC, dI)) (ci := 0) (v := .ref q402) (ty := .array .int) (C := RX0) (T := TX0) (N := 10) hx hb hts hinX0 tyX0 tyX0_ok nmX0 hown hK hP hD hS 0 rfl rfl 1 (by decide) (hts (.fieldLink RX0 15 "MayRings$Families" "orders" "[I") (List.mem_of_getElem? (i := 6) rfl)) (fun _ h9 => h9) rfl hin rfl (by decide +kernel) rfl rfl (Nat.le_of_ble_eq_true rfl) dX0_init_19 (fun H locs hP hD hS => ?_)
  have hP : va_P (dC, dI) vwCl [(h0, .inr (0, [.ref q401, .ref q402, .null, .null, .null, .null, .int 0, .int 0, .int 0, .int 0])), (q401, .inl (cI, 2520, .inl (fun _ => 0))), (q402, .inl (cI, 2520, .inl (fun _ => 0)))] H := hP
  have hD : va_D A [(h0, .inr (0, [.ref q401, .ref q402, .null, .null, .null, .null, .int 0, .int 0, .int 0, .int 0])), (q401, .inl (cI, 2520, .inl (fun _ => 0))), (q402, .inl (cI, 2520, .inl (fun _ => 0)))] := hD
  refine lv_aload_n hx hb dX0_init_22 rfl (lv_at hl 0 rfl) ?_
  refine lv_sipush (v := 2520) hx hb dX0_init_23 (by decide) ?_
  refine nw_arr (atype := .int) (N' := 2520) (a0 := (2520, .inl (fun _ => 0))) (ty := .int) hx hb (hts (.arrayClass .int) (List.mem_of_getElem? (i := 4) rfl)) rfl hK hP hD hS hA 1 rfl (fun _ => rfl) (by decide +kernel) (by decide +kernel) (by decide +kernel) (Nat.le_of_ble_eq_true rfl) (Nat.le_of_ble_eq_true rfl) dX0_init_26 (fun q403 H hP hD hS => ?_)
  refine W.widen (k := 3) (n := 7560) (Nat.le_of_ble_eq_true rfl) (Nat.le_of_ble_eq_true rfl) ?_
  have hP : va_P (dC, dI) vwCl [(h0, .inr (0, [.ref q401, .ref q402, .null, .null, .null, .null, .int 0, .int 0, .int 0, .int 0])), (q401, .inl (cI, 2520, .inl (fun _ => 0))), (q402, .inl (cI, 2520, .inl (fun _ => 0))), (q403, .inl (cI, 2520, .inl (fun _ => 0)))] H := hP
  have hD : va_D A [(h0, .inr (0, [.ref q401, .ref q402, .null, .null, .null, .null, .int 0, .int 0, .int 0, .int 0])), (q401, .inl (cI, 2520, .inl (fun _ => 0))), (q402, .inl (cI, 2520, .inl (fun _ => 0))), (q403, .inl (cI, 2520, .inl (fun _ => 0)))] := hD
  refine va_putF (D := (dC, dI)) (ci := 0) (v := .ref q403) (ty := .array .int) (C := RX0) (T := TX0) (N := 10) hx hb hts hinX0 tyX0 tyX0_ok nmX0 hown hK hP hD hS 0 rfl rfl 2 (by decide) (hts (.fieldLink RX0 18 "MayRings$Families" "rest" "[I") (List.mem_of_getElem? (i := 7) rfl)) (fun _ h9 => h9) rfl hin rfl (by decide +kernel) rfl rfl (Nat.le_of_ble_eq_true rfl) dX0_init_28 (fun H locs hP hD hS => ?_)
  have hP : va_P (dC, dI) vwCl [(h0, .inr (0, [.ref q401, .ref q402, .ref q403, .null, .null, .null, .int 0, .int 0, .int 0, .int 0])), (q401, .inl (cI, 2520, .inl (fun _ => 0))), (q402, .inl (cI, 2520, .inl (fun _ => 0))), (q403, .inl (cI, 2520, .inl (fun _ => 0)))] H := hP
  have hD : va_D A [(h0, .inr (0, [.ref q401, .ref q402, .ref q403, .null, .null, .null, .int 0, .int 0, .int 0, .int 0])), (q401, .inl (cI, 2520, .inl (fun _ => 0))), (q402, .inl (cI, 2520, .inl (fun _ => 0))), (q403, .inl (cI, 2520, .inl (fun _ => 0)))] := hD
  refine lv_aload_n hx hb dX0_init_31 rfl (lv_at hl 0 rfl) ?_
  refine lv_sipush (v := 4096) hx hb dX0_init_32 (by decide) ?_
  refine nw_arr (atype := .int) (N' := 4096) (a0 := (4096, .inl (fun _ => 0))) (ty := .int) hx hb (hts (.arrayClass .int) (List.mem_of_getElem? (i := 4) rfl)) rfl hK hP hD hS hA 1 rfl (fun _ => rfl) (by decide +kernel) (by decide +kernel) (by decide +kernel) (Nat.le_of_ble_eq_true rfl) (Nat.le_of_ble_eq_true rfl) dX0_init_35 (fun q404 H hP hD hS => ?_)
  refine W.widen (k := 4) (n := 11656) (Nat.le_of_ble_eq_true rfl) (Nat.le_of_ble_eq_true rfl) ?_
  have hP : va_P (dC, dI) vwCl [(h0, .inr (0, [.ref q401, .ref q402, .ref q403, .null, .null, .null, .int 0, .int 0, .int 0, .int 0])), (q401, .inl (cI, 2520, .inl (fun _ => 0))), (q402, .inl (cI, 2520, .inl (fun _ => 0))), (q403, .inl (cI, 2520, .inl (fun _ => 0))), (q404, .inl (cI, 4096, .inl (fun _ => 0)))] H := hP
  have hD : va_D A [(h0, .inr (0, [.ref q401, .ref q402, .ref q403, .null, .null, .null, .int 0, .int 0, .int 0, .int 0])), (q401, .inl (cI, 2520, .inl (fun _ => 0))), (q402, .inl (cI, 2520, .inl (fun _ => 0))), (q403, .inl (cI, 2520, .inl (fun _ => 0))), (q404, .inl (cI, 4096, .inl (fun _ => 0)))] := hD
  refine va_putF (D := (dC, dI)) (ci := 0) (v := .ref q404) (ty := .array .int) (C := RX0) (T := TX0) (N := 10) hx hb hts hinX0 tyX0 tyX0_ok nmX0 hown hK hP hD hS 0 rfl rfl 3 (by decide) (hts (.fieldLink RX0 21 "MayRings$Families" "slots" "[I") (List.mem_of_getElem? (i := 8) rfl)) (fun _ h9 => h9) rfl hin rfl (by decide +kernel) rfl rfl (Nat.le_of_ble_eq_true rfl) dX0_init_37 (fun H locs hP hD hS => ?_)
  have hP : va_P (dC, dI) vwCl [(h0, .inr (0, [.ref q401, .ref q402, .ref q403, .ref q404, .null, .null, .int 0, .int 0, .int 0, .int 0])), (q401, .inl (cI, 2520, .inl (fun _ => 0))), (q402, .inl (cI, 2520, .inl (fun _ => 0))), (q403, .inl (cI, 2520, .inl (fun _ => 0))), (q404, .inl (cI, 4096, .inl (fun _ => 0)))] H := hP
  have hD : va_D A [(h0, .inr (0, [.ref q401, .ref q402, .ref q403, .ref q404, .null, .null, .int 0, .int 0, .int 0, .int 0])), (q401, .inl (cI, 2520, .inl (fun _ => 0))), (q402, .inl (cI, 2520, .inl (fun _ => 0))), (q403, .inl (cI, 2520, .inl (fun _ => 0))), (q404, .inl (cI, 4096, .inl (fun _ => 0)))] := hD
  refine lv_aload_n hx hb dX0_init_40 rfl (lv_at hl 0 rfl) ?_
  refine lv_bipush (v := 81) hx hb dX0_init_41 (by decide) ?_
  refine nw_arr (atype := .int) (N' := 81) (a0 := (81, .inl (fun _ => 0))) (ty := .int) hx hb (hts (.arrayClass .int) (List.mem_of_getElem? (i := 4) rfl)) rfl hK hP hD hS hA 1 rfl (fun _ => rfl) (by decide +kernel) (by decide +kernel) (by decide +kernel) (Nat.le_of_ble_eq_true rfl) (Nat.le_of_ble_eq_true rfl) dX0_init_43 (fun q405 H hP hD hS => ?_)
  refine W.widen (k := 5) (n := 11737) (Nat.le_of_ble_eq_true rfl) (Nat.le_of_ble_eq_true rfl) ?_
  have hP : va_P (dC, dI) vwCl [(h0, .inr (0, [.ref q401, .ref q402, .ref q403, .ref q404, .null, .null, .int 0, .int 0, .int 0, .int 0])), (q401, .inl (cI, 2520, .inl (fun _ => 0))), (q402, .inl (cI, 2520, .inl (fun _ => 0))), (q403, .inl (cI, 2520, .inl (fun _ => 0))), (q404, .inl (cI, 4096, .inl (fun _ => 0))), (q405, .inl (cI, 81, .inl (fun _ => 0)))] H := hP
  have hD : va_D A [(h0, .inr (0, [.ref q401, .ref q402, .ref q403, .ref q404, .null, .null, .int 0, .int 0, .int 0, .int 0])), (q401, .inl (cI, 2520, .inl (fun _ => 0))), (q402, .inl (cI, 2520, .inl (fun _ => 0))), (q403, .inl (cI, 2520, .inl (fun _ => 0))), (q404, .inl (cI, 4096, .inl (fun _ => 0))), (q405, .inl (cI, 81, .inl (fun _ => 0)))] := hD
  refine va_putF (D := (dC, dI)) (ci := 0) (v := .ref q405) (ty := .array .int) (C := RX0) (T := TX0) (N := 10) hx hb hts hinX0 tyX0 tyX0_ok nmX0 hown hK hP hD hS 0 rfl rfl 4 (by decide) (hts (.fieldLink RX0 24 "MayRings$Families" "bits" "[I") (List.mem_of_getElem? (i := 9) rfl)) (fun _ h9 => h9) rfl hin rfl (by decide +kernel) rfl rfl (Nat.le_of_ble_eq_true rfl) dX0_init_45 (fun H locs hP hD hS => ?_)
  have hP : va_P (dC, dI) vwCl [(h0, .inr (0, [.ref q401, .ref q402, .ref q403, .ref q404, .ref q405, .null, .int 0, .int 0, .int 0, .int 0])), (q401, .inl (cI, 2520, .inl (fun _ => 0))), (q402, .inl (cI, 2520, .inl (fun _ => 0))), (q403, .inl (cI, 2520, .inl (fun _ => 0))), (q404, .inl (cI, 4096, .inl (fun _ => 0))), (q405, .inl (cI, 81, .inl (fun _ => 0)))] H := hP
  have hD : va_D A [(h0, .inr (0, [.ref q401, .ref q402, .ref q403, .ref q404, .ref q405, .null, .int 0, .int 0, .int 0, .int 0])), (q401, .inl (cI, 2520, .inl (fun _ => 0))), (q402, .inl (cI, 2520, .inl (fun _ => 0))), (q403, .inl (cI, 2520, .inl (fun _ => 0))), (q404, .inl (cI, 4096, .inl (fun _ => 0))), (q405, .inl (cI, 81, .inl (fun _ => 0)))] := hD
  refine lv_aload_n hx hb dX0_init_48 rfl (lv_at hl 0 rfl) ?_
  refine lv_bipush (v := 9) hx hb dX0_init_49 (by decide) ?_
  refine nw_arr (atype := .int) (N' := 9) (a0 := (9, .inl (fun _ => 0))) (ty := .int) hx hb (hts (.arrayClass .int) (List.mem_of_getElem? (i := 4) rfl)) rfl hK hP hD hS hA 1 rfl (fun _ => rfl) (by decide +kernel) (by decide +kernel) (by decide +kernel) (Nat.le_of_ble_eq_true rfl) (Nat.le_of_ble_eq_true rfl) dX0_init_51 (fun q406 H hP hD hS => ?_)
  refine W.widen (k := 6) (n := 11746) (Nat.le_of_ble_eq_true rfl) (Nat.le_of_ble_eq_true rfl) ?_
  have hP : va_P (dC, dI) vwCl [(h0, .inr (0, [.ref q401, .ref q402, .ref q403, .ref q404, .ref q405, .null, .int 0, .int 0, .int 0, .int 0])), (q401, .inl (cI, 2520, .inl (fun _ => 0))), (q402, .inl (cI, 2520, .inl (fun _ => 0))), (q403, .inl (cI, 2520, .inl (fun _ => 0))), (q404, .inl (cI, 4096, .inl (fun _ => 0))), (q405, .inl (cI, 81, .inl (fun _ => 0))), (q406, .inl (cI, 9, .inl (fun _ => 0)))] H := hP
  have hD : va_D A [(h0, .inr (0, [.ref q401, .ref q402, .ref q403, .ref q404, .ref q405, .null, .int 0, .int 0, .int 0, .int 0])), (q401, .inl (cI, 2520, .inl (fun _ => 0))), (q402, .inl (cI, 2520, .inl (fun _ => 0))), (q403, .inl (cI, 2520, .inl (fun _ => 0))), (q404, .inl (cI, 4096, .inl (fun _ => 0))), (q405, .inl (cI, 81, .inl (fun _ => 0))), (q406, .inl (cI, 9, .inl (fun _ => 0)))] := hD
  refine va_putF (D := (dC, dI)) (ci := 0) (v := .ref q406) (ty := .array .int) (C := RX0) (T := TX0) (N := 10) hx hb hts hinX0 tyX0 tyX0_ok nmX0 hown hK hP hD hS 0 rfl rfl 5 (by decide) (hts (.fieldLink RX0 27 "MayRings$Families" "twins" "[I") (List.mem_of_getElem? (i := 10) rfl)) (fun _ h9 => h9) rfl hin rfl (by decide +kernel) rfl rfl (Nat.le_of_ble_eq_true rfl) dX0_init_53 (fun H locs hP hD hS => ?_)
  have hP : va_P (dC, dI) vwCl [(h0, .inr (0, [.ref q401, .ref q402, .ref q403, .ref q404, .ref q405, .ref q406, .int 0, .int 0, .int 0, .int 0])), (q401, .inl (cI, 2520, .inl (fun _ => 0))), (q402, .inl (cI, 2520, .inl (fun _ => 0))), (q403, .inl (cI, 2520, .inl (fun _ => 0))), (q404, .inl (cI, 4096, .inl (fun _ => 0))), (q405, .inl (cI, 81, .inl (fun _ => 0))), (q406, .inl (cI, 9, .inl (fun _ => 0)))] H := hP
  have hD : va_D A [(h0, .inr (0, [.ref q401, .ref q402, .ref q403, .ref q404, .ref q405, .ref q406, .int 0, .int 0, .int 0, .int 0])), (q401, .inl (cI, 2520, .inl (fun _ => 0))), (q402, .inl (cI, 2520, .inl (fun _ => 0))), (q403, .inl (cI, 2520, .inl (fun _ => 0))), (q404, .inl (cI, 4096, .inl (fun _ => 0))), (q405, .inl (cI, 81, .inl (fun _ => 0))), (q406, .inl (cI, 9, .inl (fun _ => 0)))] := hD
  refine lv_aload_n hx hb dX0_init_56 rfl (lv_at hl 0 rfl) ?_
  refine lv_iconst (v := 0) hx hb dX0_init_57 (by decide) ?_
  refine va_put (D := (dC, dI)) (ci := 0) (v := .int 0) (ty := .int) (C := RX0) (T := TX0) (N := 10) hx hb hts hinX0 tyX0 tyX0_ok nmX0 hown hK hP hD hS 0 rfl rfl 6 (by decide) (hts (.fieldLink RX0 30 "MayRings$Families" "count" "I") (List.mem_of_getElem? (i := 11) rfl)) (fun _ h9 => h9) rfl (by decide +kernel) rfl rfl (Nat.le_of_ble_eq_true rfl) dX0_init_58 (fun H locs hP hD hS => ?_)
  have hP : va_P (dC, dI) vwCl [(h0, .inr (0, [.ref q401, .ref q402, .ref q403, .ref q404, .ref q405, .ref q406, .int 0, .int 0, .int 0, .int 0])), (q401, .inl (cI, 2520, .inl (fun _ => 0))), (q402, .inl (cI, 2520, .inl (fun _ => 0))), (q403, .inl (cI, 2520, .inl (fun _ => 0))), (q404, .inl (cI, 4096, .inl (fun _ => 0))), (q405, .inl (cI, 81, .inl (fun _ => 0))), (q406, .inl (cI, 9, .inl (fun _ => 0)))] H := hP
  have hD : va_D A [(h0, .inr (0, [.ref q401, .ref q402, .ref q403, .ref q404, .ref q405, .ref q406, .int 0, .int 0, .int 0, .int 0])), (q401, .inl (cI, 2520, .inl (fun _ => 0))), (q402, .inl (cI, 2520, .inl (fun _ => 0))), (q403, .inl (cI, 2520, .inl (fun _ => 0))), (q404, .inl (cI, 4096, .inl (fun _ => 0))), (q405, .inl (cI, 81, .inl (fun _ => 0))), (q406, .inl (cI, 9, .inl (fun _ => 0)))] := hD
  refine lv_aload_n hx hb dX0_init_61 rfl (lv_at hl 0 rfl) ?_
  refine lv_iconst (v := 0) hx hb dX0_init_62 (by decide) ?_
  refine va_put (D := (dC, dI)) (ci := 0) (v := .int 0) (ty := .int) (C := RX0) (T := TX0) (N := 10) hx hb hts hinX0 tyX0 tyX0_ok nmX0 hown hK hP hD hS 0 rfl rfl 7 (by decide) (hts (.fieldLink RX0 34 "MayRings$Families" "restCount" "I") (List.mem_of_getElem? (i := 12) rfl)) (fun _ h9 => h9) rfl (by decide +kernel) rfl rfl (Nat.le_of_ble_eq_true rfl) dX0_init_63 (fun H locs hP hD hS => ?_)
  have hP : va_P (dC, dI) vwCl [(h0, .inr (0, [.ref q401, .ref q402, .ref q403, .ref q404, .ref q405, .ref q406, .int 0, .int 0, .int 0, .int 0])), (q401, .inl (cI, 2520, .inl (fun _ => 0))), (q402, .inl (cI, 2520, .inl (fun _ => 0))), (q403, .inl (cI, 2520, .inl (fun _ => 0))), (q404, .inl (cI, 4096, .inl (fun _ => 0))), (q405, .inl (cI, 81, .inl (fun _ => 0))), (q406, .inl (cI, 9, .inl (fun _ => 0)))] H := hP
  have hD : va_D A [(h0, .inr (0, [.ref q401, .ref q402, .ref q403, .ref q404, .ref q405, .ref q406, .int 0, .int 0, .int 0, .int 0])), (q401, .inl (cI, 2520, .inl (fun _ => 0))), (q402, .inl (cI, 2520, .inl (fun _ => 0))), (q403, .inl (cI, 2520, .inl (fun _ => 0))), (q404, .inl (cI, 4096, .inl (fun _ => 0))), (q405, .inl (cI, 81, .inl (fun _ => 0))), (q406, .inl (cI, 9, .inl (fun _ => 0)))] := hD
  refine lv_aload_n hx hb dX0_init_66 rfl (lv_at hl 0 rfl) ?_
  refine lv_iconst (v := 0) hx hb dX0_init_67 (by decide) ?_
  refine va_put (D := (dC, dI)) (ci := 0) (v := .int 0) (ty := .int) (C := RX0) (T := TX0) (N := 10) hx hb hts hinX0 tyX0 tyX0_ok nmX0 hown hK hP hD hS 0 rfl rfl 8 (by decide) (hts (.fieldLink RX0 37 "MayRings$Families" "size" "I") (List.mem_of_getElem? (i := 13) rfl)) (fun _ h9 => h9) rfl (by decide +kernel) rfl rfl (Nat.le_of_ble_eq_true rfl) dX0_init_68 (fun H locs hP hD hS => ?_)
  have hP : va_P (dC, dI) vwCl [(h0, .inr (0, [.ref q401, .ref q402, .ref q403, .ref q404, .ref q405, .ref q406, .int 0, .int 0, .int 0, .int 0])), (q401, .inl (cI, 2520, .inl (fun _ => 0))), (q402, .inl (cI, 2520, .inl (fun _ => 0))), (q403, .inl (cI, 2520, .inl (fun _ => 0))), (q404, .inl (cI, 4096, .inl (fun _ => 0))), (q405, .inl (cI, 81, .inl (fun _ => 0))), (q406, .inl (cI, 9, .inl (fun _ => 0)))] H := hP
  have hD : va_D A [(h0, .inr (0, [.ref q401, .ref q402, .ref q403, .ref q404, .ref q405, .ref q406, .int 0, .int 0, .int 0, .int 0])), (q401, .inl (cI, 2520, .inl (fun _ => 0))), (q402, .inl (cI, 2520, .inl (fun _ => 0))), (q403, .inl (cI, 2520, .inl (fun _ => 0))), (q404, .inl (cI, 4096, .inl (fun _ => 0))), (q405, .inl (cI, 81, .inl (fun _ => 0))), (q406, .inl (cI, 9, .inl (fun _ => 0)))] := hD
  refine lv_aload_n hx hb dX0_init_71 rfl (lv_at hl 0 rfl) ?_
  refine lv_iconst (v := 0) hx hb dX0_init_72 (by decide) ?_
  refine va_put (D := (dC, dI)) (ci := 0) (v := .int 0) (ty := .int) (C := RX0) (T := TX0) (N := 10) hx hb hts hinX0 tyX0 tyX0_ok nmX0 hown hK hP hD hS 0 rfl rfl 9 (by decide) (hts (.fieldLink RX0 40 "MayRings$Families" "union" "I") (List.mem_of_getElem? (i := 14) rfl)) (fun _ h9 => h9) rfl (by decide +kernel) rfl rfl (Nat.le_of_ble_eq_true rfl) dX0_init_73 (fun H locs hP hD hS => ?_)
  have hP : va_P (dC, dI) vwCl [(h0, .inr (0, [.ref q401, .ref q402, .ref q403, .ref q404, .ref q405, .ref q406, .int 0, .int 0, .int 0, .int 0])), (q401, .inl (cI, 2520, .inl (fun _ => 0))), (q402, .inl (cI, 2520, .inl (fun _ => 0))), (q403, .inl (cI, 2520, .inl (fun _ => 0))), (q404, .inl (cI, 4096, .inl (fun _ => 0))), (q405, .inl (cI, 81, .inl (fun _ => 0))), (q406, .inl (cI, 9, .inl (fun _ => 0)))] H := hP
  have hD : va_D A [(h0, .inr (0, [.ref q401, .ref q402, .ref q403, .ref q404, .ref q405, .ref q406, .int 0, .int 0, .int 0, .int 0])), (q401, .inl (cI, 2520, .inl (fun _ => 0))), (q402, .inl (cI, 2520, .inl (fun _ => 0))), (q403, .inl (cI, 2520, .inl (fun _ => 0))), (q404, .inl (cI, 4096, .inl (fun _ => 0))), (q405, .inl (cI, 81, .inl (fun _ => 0))), (q406, .inl (cI, 9, .inl (fun _ => 0)))] := hD
  have hP9 := hP.sub (ws' := [(h0, .inr (0, [.ref q401, .ref q402, .ref q403, .ref q404, .ref q405, .ref q406, .int 0, .int 0, .int 0, .int 0])), (q401, .inl (cI, 2520, .inl (fun _ => 0))), (q402, .inl (cI, 2520, .inl (fun _ => 0))), (q403, .inl (cI, 2520, .inl (fun _ => 0))), (q404, .inl (cI, 4096, .inl (fun _ => 0))), (q405, .inl (cI, 81, .inl (fun _ => 0))), (q406, .inl (cI, 9, .inl (fun _ => 0)))]) [0, 1, 2, 3, 4, 5, 6] rfl
  have hD9 := hD.sub (ws' := [(h0, .inr (0, [.ref q401, .ref q402, .ref q403, .ref q404, .ref q405, .ref q406, .int 0, .int 0, .int 0, .int 0])), (q401, .inl (cI, 2520, .inl (fun _ => 0))), (q402, .inl (cI, 2520, .inl (fun _ => 0))), (q403, .inl (cI, 2520, .inl (fun _ => 0))), (q404, .inl (cI, 4096, .inl (fun _ => 0))), (q405, .inl (cI, 81, .inl (fun _ => 0))), (q406, .inl (cI, 9, .inl (fun _ => 0)))]) [0, 1, 2, 3, 4, 5, 6] (by decide) rfl
  refine W.widen (k := 6) (n := 11746) (Nat.le_of_ble_eq_true rfl) (Nat.le_of_ble_eq_true rfl) ?_
  exact W.vret hx hb hr (fun t ht hW => ⟨⟨(), rfl, trivial, ⟨q401, q402, q403, q404, q405, q406, by rw [ht]; exact hP9, hD9⟩⟩, hS.F ht⟩) hS.2.2 dX0_init_76
def v_X2_init : List Cond := Cond.code yX2_init cX2_init 1 none :: ([Cond.methodLink RX2 3 objectInit, Cond.instanceMethod objectInit, Cond.code objectInit ⟨#[0xb1]⟩ 1 none, Cond.arrayClass .int, Cond.fieldLink RX2 11 "MayRings$Letters" "house" "[I", Cond.fieldLink RX2 15 "MayRings$Letters" "where" "[I", Cond.arrayClass .boolean, Cond.fieldLink RX2 18 "MayRings$Letters" "ofPlace" "[Z", Cond.fieldLink RX2 22 "MayRings$Letters" "isSo" "[Z", Cond.fieldLink RX2 25 "MayRings$Letters" "toldAt" "[I", Cond.fieldLink RX2 28 "MayRings$Letters" "untoldAt" "[I", Cond.fieldLink RX2 31 "MayRings$Letters" "count" "I", Cond.fieldLink RX2 35 "MayRings$Letters" "time" "I"] ++ (wsX20 ++ ([])))
theorem k_X2_init : GoodIn lw_tbl v_X2_init := gd_c (List.mem_of_getElem? (i := 402) (by decide +kernel)) rfl (goodIn_app (gd_c (List.mem_of_getElem? (i := 403) (by decide +kernel)) rfl (gd_c (List.mem_of_getElem? (i := 155) (by decide +kernel)) rfl (gd_c (List.mem_of_getElem? (i := 156) (by decide +kernel)) rfl (gd_c (List.mem_of_getElem? (i := 206) (by decide +kernel)) rfl (gd_c (List.mem_of_getElem? (i := 404) (by decide +kernel)) rfl (gd_c (List.mem_of_getElem? (i := 405) (by decide +kernel)) rfl (gd_c (List.mem_of_getElem? (i := 431) (by decide +kernel)) rfl (gd_c (List.mem_of_getElem? (i := 406) (by decide +kernel)) rfl (gd_c (List.mem_of_getElem? (i := 407) (by decide +kernel)) rfl (gd_c (List.mem_of_getElem? (i := 408) (by decide +kernel)) rfl (gd_c (List.mem_of_getElem? (i := 409) (by decide +kernel)) rfl (gd_c (List.mem_of_getElem? (i := 410) (by decide +kernel)) rfl (gd_c (List.mem_of_getElem? (i := 412) (by decide +kernel)) rfl (gd_nil)))))))))))))) (goodIn_app kfX2 (gd_nil)))
set_option maxHeartbeats 600000 in
set_option maxRecDepth 100000 in
theorem c_X2_init (l : Launch) (dC : Nat → ClassId) (dI : Nat → Nat → Nat) (cB cI cJ cZ cP : ClassId) (h0 : Nat) (sz : Nat) : Met l yX2_init v_X2_init ({ frames := 1, cells := 6, slots := 120, locals := 22 }) (va_Pc [.ref h0] (fun U => U.heap.size = sz ∧ va_P (dC, dI) vwCl [(h0, .inr (2, [.null, .null, .null, .null, .null, .null, .int 0, .int 0]))] U.heap ∧ va_K (dC, dI) vwCl (ty5 cB cI cJ cZ cP) U ∧ va_D (fun _ => True) [(h0, .inr (2, [.null, .null, .null, .null, .null, .null, .int 0, .int 0]))])) (va_Qv (fun _ : Unit => True) (fun _ t => ∃ (e0 : Nat) (e1 : Nat) (e2 : Nat) (e3 : Nat) (e4 : Nat) (e5 : Nat), va_P (dC, dI) vwCl [(h0, .inr (2, [.ref e0, .ref e1, .ref e2, .ref e3, .ref e4, .ref e5, .int 0, .int 0])), (e0, .inl (cI, 20, .inl (fun _ => 0))), (e1, .inl (cI, 20, .inl (fun _ => 0))), (e2, .inl (cZ, 20, .inl (fun _ => 0))), (e3, .inl (cZ, 20, .inl (fun _ => 0))), (e4, .inl (cI, 20, .inl (fun _ => 0))), (e5, .inl (cI, 20, .inl (fun _ => 0)))] t.heap ∧ va_D (va_A [(h0, .inr (2, [.null, .null, .null, .null, .null, .null, .int 0, .int 0]))] sz) [(h0, .inr (2, [.ref e0, .ref e1, .ref e2, .ref e3, .ref e4, .ref e5, .int 0, .int 0])), (e0, .inl (cI, 20, .inl (fun _ => 0))), (e1, .inl (cI, 20, .inl (fun _ => 0))), (e2, .inl (cZ, 20, .inl (fun _ => 0))), (e3, .inl (cZ, 20, .inl (fun _ => 0))), (e4, .inl (cI, 20, .inl (fun _ => 0))), (e5, .inl (cI, 20, .inl (fun _ => 0)))]) (va_A [(h0, .inr (2, [.null, .null, .null, .null, .null, .null, .int 0, .int 0]))] sz)) 6 120 (va_A [(h0, .inr (2, [.null, .null, .null, .null, .null, .null, .int 0, .int 0]))] sz) := by
  refine Met.ofW (cc := cX2_init) (maxL := 1) (ret := none) (by decide) rfl ?_
  intro p e s m args below meth c s₁ B hml hv
  obtain ⟨rfl, hsz, hP, hK, hD0⟩ := hv
  have hx := B.exec
  have hb := B.bytes
  have hr := B.returns
  have hts := atoms_spec (ws := v_X2_init) B.pre
  have hown : s.vm.findClass RX2 = some m.cls := findClass_of_methodNamed B.named
  have hlocks := B.notSynchronized
  have hin : meth.name = "<init>" := (name_of_methodNamed B.named B.method).1
  have hinX2 : ∀ w ∈ wsX20, w ∈ v_X2_init := fun _ h => List.mem_cons_of_mem _ (List.mem_append_right _ (List.mem_append_left _ h))
  subst hsz
  have hD := hD0.self (sz := s.heap.size)
  generalize hAe : va_A [(h0, .inr (2, [.null, .null, .null, .null, .null, .null, .int 0, .int 0]))] s.heap.size = A at hD ⊢
  have hA : ∀ q : Nat, s.heap.size ≤ q → A q := fun q h => by rw [← hAe]; exact Or.inr h
  have hP : va_P (dC, dI) vwCl [(h0, .inr (2, [.null, .null, .null, .null, .null, .null, .int 0, .int 0]))] s.heap := hP
  have hl := lv_entry ([.ref h0]) (n := 1) (Nat.le_of_ble_eq_true rfl)
  rw [lg_entry_eq]
  generalize (lg_sl ([.ref h0]) ++ List.replicate (1 - (lg_sl ([.ref h0])).length) Slot.unset).toArray = ls at hl ⊢
  have hl : lv_has ls 1 [(0, .ref h0)] := hl
  refine W_gen (A := A) hP (fun H locs hP hS => ?_)
  refine lv_aload_n hx hb dX2_init_0 rfl (lv_at hl 0 rfl) ?_
  refine W.objInit hx hb hown (hts (.methodLink RX2 3 objectInit) (List.mem_of_getElem? (i := 1) rfl)) (hts (.instanceMethod objectInit) (List.mem_of_getElem? (i := 2) rfl)) (hts (.code objectInit ⟨#[0xb1]⟩ 1 none) (List.mem_of_getElem? (i := 3) rfl)) rfl (by rw [hml]; exact hl.1) rfl dX2_init_1 (Nat.le_of_ble_eq_true rfl) (Nat.le_of_ble_eq_true rfl) ?_
  refine W.eq (g2 := F0 m 4 ls []) rfl ?_
  refine lv_aload_n hx hb dX2_init_4 rfl (lv_at hl 0 rfl) ?_
  refine lv_bipush (v := 20) hx hb dX2_init_5 (by decide) ?_
  refine nw_arr (atype := .int) (N' := 20) (a0 := (20, .inl (fun _ => 0))) (ty := .int) hx hb (hts (.arrayClass .int) (List.mem_of_getElem? (i := 4) rfl)) rfl hK hP hD hS hA 1 rfl (fun _ => rfl) (by decide +kernel) (by decide +kernel) (by decide +kernel) (Nat.le_of_ble_eq_true rfl) (Nat.le_of_ble_eq_true rfl) dX2_init_7 (fun q410 H hP hD hS => ?_)
  refine W.widen (k := 1) (n := 20) (Nat.le_of_ble_eq_true rfl) (Nat.le_of_ble_eq_true rfl) ?_
  have hP : va_P (dC, dI) vwCl [(h0, .inr (2, [.null, .null, .null, .null, .null, .null, .int 0, .int 0])), (q410, .inl (cI, 20, .inl (fun _ => 0)))] H := hP
  have hD : va_D A [(h0, .inr (2, [.null, .null, .null, .null, .null, .null, .int 0, .int 0])), (q410, .inl (cI, 20, .inl (fun _ => 0)))] := hD
  refine va_putF (D := (dC, dI)) (ci := 2) (v := .ref q410) (ty := .array .int) (C := RX2) (T := TX2) (N := 8) hx hb hts hinX2 tyX2 tyX2_ok nmX2 hown hK hP hD hS 0 rfl rfl 0 (by decide) (hts (.fieldLink RX2 11 "MayRings$Letters" "house" "[I") (List.mem_of_getElem? (i := 5) rfl)) (fun _ h9 => h9) rfl hin rfl (by decide +kernel) rfl rfl (Nat.le_of_ble_eq_true rfl) dX2_init_9 (fun H locs hP hD hS => ?_)
  have hP : va_P (dC, dI) vwCl [(h0, .inr (2, [.ref q410, .null, .null, .null, .null, .null, .int 0, .int 0])), (q410, .inl (cI, 20, .inl (fun _ => 0)))] H := hP
  have hD : va_D A [(h0, .inr (2, [.ref q410, .null, .null, .null, .null, .null, .int 0, .int 0])), (q410, .inl (cI, 20, .inl (fun _ => 0)))] := hD
  refine lv_aload_n hx hb dX2_init_12 rfl (lv_at hl 0 rfl) ?_
  refine lv_bipush (v := 20) hx hb dX2_init_13 (by decide) ?_
  refine nw_arr (atype := .int) (N' := 20) (a0 := (20, .inl (fun _ => 0))) (ty := .int) hx hb (hts (.arrayClass .int) (List.mem_of_getElem? (i := 4) rfl)) rfl hK hP hD hS hA 1 rfl (fun _ => rfl) (by decide +kernel) (by decide +kernel) (by decide +kernel) (Nat.le_of_ble_eq_true rfl) (Nat.le_of_ble_eq_true rfl) dX2_init_15 (fun q411 H hP hD hS => ?_)
  refine W.widen (k := 2) (n := 40) (Nat.le_of_ble_eq_true rfl) (Nat.le_of_ble_eq_true rfl) ?_
  have hP : va_P (dC, dI) vwCl [(h0, .inr (2, [.ref q410, .null, .null, .null, .null, .null, .int 0, .int 0])), (q410, .inl (cI, 20, .inl (fun _ => 0))), (q411, .inl (cI, 20, .inl (fun _ => 0)))] H := hP
  have hD : va_D A [(h0, .inr (2, [.ref q410, .null, .null, .null, .null, .null, .int 0, .int 0])), (q410, .inl (cI, 20, .inl (fun _ => 0))), (q411, .inl (cI, 20, .inl (fun _ => 0)))] := hD
  refine va_putF (D := (dC, dI)) (ci := 2) (v := .ref q411) (ty := .array .int) (C := RX2) (T := TX2) (N := 8) hx hb hts hinX2 tyX2 tyX2_ok nmX2 hown hK hP hD hS 0 rfl rfl 1 (by decide) (hts (.fieldLink RX2 15 "MayRings$Letters" "where" "[I") (List.mem_of_getElem? (i := 6) rfl)) (fun _ h9 => h9) rfl hin rfl (by decide +kernel) rfl rfl (Nat.le_of_ble_eq_true rfl) dX2_init_17 (fun H locs hP hD hS => ?_)
  have hP : va_P (dC, dI) vwCl [(h0, .inr (2, [.ref q410, .ref q411, .null, .null, .null, .null, .int 0, .int 0])), (q410, .inl (cI, 20, .inl (fun _ => 0))), (q411, .inl (cI, 20, .inl (fun _ => 0)))] H := hP
  have hD : va_D A [(h0, .inr (2, [.ref q410, .ref q411, .null, .null, .null, .null, .int 0, .int 0])), (q410, .inl (cI, 20, .inl (fun _ => 0))), (q411, .inl (cI, 20, .inl (fun _ => 0)))] := hD
  refine lv_aload_n hx hb dX2_init_20 rfl (lv_at hl 0 rfl) ?_
  refine lv_bipush (v := 20) hx hb dX2_init_21 (by decide) ?_
  refine nw_arr (atype := .boolean) (N' := 20) (a0 := (20, .inl (fun _ => 0))) (ty := .boolean) hx hb (hts (.arrayClass .boolean) (List.mem_of_getElem? (i := 7) rfl)) rfl hK hP hD hS hA 3 rfl (fun _ => rfl) (by decide +kernel) (by decide +kernel) (by decide +kernel) (Nat.le_of_ble_eq_true rfl) (Nat.le_of_ble_eq_true rfl) dX2_init_23 (fun q412 H hP hD hS => ?_)
  refine W.widen (k := 3) (n := 60) (Nat.le_of_ble_eq_true rfl) (Nat.le_of_ble_eq_true rfl) ?_
  have hP : va_P (dC, dI) vwCl [(h0, .inr (2, [.ref q410, .ref q411, .null, .null, .null, .null, .int 0, .int 0])), (q410, .inl (cI, 20, .inl (fun _ => 0))), (q411, .inl (cI, 20, .inl (fun _ => 0))), (q412, .inl (cZ, 20, .inl (fun _ => 0)))] H := hP
  have hD : va_D A [(h0, .inr (2, [.ref q410, .ref q411, .null, .null, .null, .null, .int 0, .int 0])), (q410, .inl (cI, 20, .inl (fun _ => 0))), (q411, .inl (cI, 20, .inl (fun _ => 0))), (q412, .inl (cZ, 20, .inl (fun _ => 0)))] := hD
  refine va_putF (D := (dC, dI)) (ci := 2) (v := .ref q412) (ty := .array .boolean) (C := RX2) (T := TX2) (N := 8) hx hb hts hinX2 tyX2 tyX2_ok nmX2 hown hK hP hD hS 0 rfl rfl 2 (by decide) (hts (.fieldLink RX2 18 "MayRings$Letters" "ofPlace" "[Z") (List.mem_of_getElem? (i := 8) rfl)) (fun _ h9 => h9) rfl hin rfl (by decide +kernel) rfl rfl (Nat.le_of_ble_eq_true rfl) dX2_init_25 (fun H locs hP hD hS => ?_)
  have hP : va_P (dC, dI) vwCl [(h0, .inr (2, [.ref q410, .ref q411, .ref q412, .null, .null, .null, .int 0, .int 0])), (q410, .inl (cI, 20, .inl (fun _ => 0))), (q411, .inl (cI, 20, .inl (fun _ => 0))), (q412, .inl (cZ, 20, .inl (fun _ => 0)))] H := hP
  have hD : va_D A [(h0, .inr (2, [.ref q410, .ref q411, .ref q412, .null, .null, .null, .int 0, .int 0])), (q410, .inl (cI, 20, .inl (fun _ => 0))), (q411, .inl (cI, 20, .inl (fun _ => 0))), (q412, .inl (cZ, 20, .inl (fun _ => 0)))] := hD
  refine lv_aload_n hx hb dX2_init_28 rfl (lv_at hl 0 rfl) ?_
  refine lv_bipush (v := 20) hx hb dX2_init_29 (by decide) ?_
  refine nw_arr (atype := .boolean) (N' := 20) (a0 := (20, .inl (fun _ => 0))) (ty := .boolean) hx hb (hts (.arrayClass .boolean) (List.mem_of_getElem? (i := 7) rfl)) rfl hK hP hD hS hA 3 rfl (fun _ => rfl) (by decide +kernel) (by decide +kernel) (by decide +kernel) (Nat.le_of_ble_eq_true rfl) (Nat.le_of_ble_eq_true rfl) dX2_init_31 (fun q413 H hP hD hS => ?_)
  refine W.widen (k := 4) (n := 80) (Nat.le_of_ble_eq_true rfl) (Nat.le_of_ble_eq_true rfl) ?_
  have hP : va_P (dC, dI) vwCl [(h0, .inr (2, [.ref q410, .ref q411, .ref q412, .null, .null, .null, .int 0, .int 0])), (q410, .inl (cI, 20, .inl (fun _ => 0))), (q411, .inl (cI, 20, .inl (fun _ => 0))), (q412, .inl (cZ, 20, .inl (fun _ => 0))), (q413, .inl (cZ, 20, .inl (fun _ => 0)))] H := hP
  have hD : va_D A [(h0, .inr (2, [.ref q410, .ref q411, .ref q412, .null, .null, .null, .int 0, .int 0])), (q410, .inl (cI, 20, .inl (fun _ => 0))), (q411, .inl (cI, 20, .inl (fun _ => 0))), (q412, .inl (cZ, 20, .inl (fun _ => 0))), (q413, .inl (cZ, 20, .inl (fun _ => 0)))] := hD
  refine va_putF (D := (dC, dI)) (ci := 2) (v := .ref q413) (ty := .array .boolean) (C := RX2) (T := TX2) (N := 8) hx hb hts hinX2 tyX2 tyX2_ok nmX2 hown hK hP hD hS 0 rfl rfl 3 (by decide) (hts (.fieldLink RX2 22 "MayRings$Letters" "isSo" "[Z") (List.mem_of_getElem? (i := 9) rfl)) (fun _ h9 => h9) rfl hin rfl (by decide +kernel) rfl rfl (Nat.le_of_ble_eq_true rfl) dX2_init_33 (fun H locs hP hD hS => ?_)
  have hP : va_P (dC, dI) vwCl [(h0, .inr (2, [.ref q410, .ref q411, .ref q412, .ref q413, .null, .null, .int 0, .int 0])), (q410, .inl (cI, 20, .inl (fun _ => 0))), (q411, .inl (cI, 20, .inl (fun _ => 0))), (q412, .inl (cZ, 20, .inl (fun _ => 0))), (q413, .inl (cZ, 20, .inl (fun _ => 0)))] H := hP
  have hD : va_D A [(h0, .inr (2, [.ref q410, .ref q411, .ref q412, .ref q413, .null, .null, .int 0, .int 0])), (q410, .inl (cI, 20, .inl (fun _ => 0))), (q411, .inl (cI, 20, .inl (fun _ => 0))), (q412, .inl (cZ, 20, .inl (fun _ => 0))), (q413, .inl (cZ, 20, .inl (fun _ => 0)))] := hD
  refine lv_aload_n hx hb dX2_init_36 rfl (lv_at hl 0 rfl) ?_
  refine lv_bipush (v := 20) hx hb dX2_init_37 (by decide) ?_
  refine nw_arr (atype := .int) (N' := 20) (a0 := (20, .inl (fun _ => 0))) (ty := .int) hx hb (hts (.arrayClass .int) (List.mem_of_getElem? (i := 4) rfl)) rfl hK hP hD hS hA 1 rfl (fun _ => rfl) (by decide +kernel) (by decide +kernel) (by decide +kernel) (Nat.le_of_ble_eq_true rfl) (Nat.le_of_ble_eq_true rfl) dX2_init_39 (fun q414 H hP hD hS => ?_)
  refine W.widen (k := 5) (n := 100) (Nat.le_of_ble_eq_true rfl) (Nat.le_of_ble_eq_true rfl) ?_
  have hP : va_P (dC, dI) vwCl [(h0, .inr (2, [.ref q410, .ref q411, .ref q412, .ref q413, .null, .null, .int 0, .int 0])), (q410, .inl (cI, 20, .inl (fun _ => 0))), (q411, .inl (cI, 20, .inl (fun _ => 0))), (q412, .inl (cZ, 20, .inl (fun _ => 0))), (q413, .inl (cZ, 20, .inl (fun _ => 0))), (q414, .inl (cI, 20, .inl (fun _ => 0)))] H := hP
  have hD : va_D A [(h0, .inr (2, [.ref q410, .ref q411, .ref q412, .ref q413, .null, .null, .int 0, .int 0])), (q410, .inl (cI, 20, .inl (fun _ => 0))), (q411, .inl (cI, 20, .inl (fun _ => 0))), (q412, .inl (cZ, 20, .inl (fun _ => 0))), (q413, .inl (cZ, 20, .inl (fun _ => 0))), (q414, .inl (cI, 20, .inl (fun _ => 0)))] := hD
  refine va_putF (D := (dC, dI)) (ci := 2) (v := .ref q414) (ty := .array .int) (C := RX2) (T := TX2) (N := 8) hx hb hts hinX2 tyX2 tyX2_ok nmX2 hown hK hP hD hS 0 rfl rfl 4 (by decide) (hts (.fieldLink RX2 25 "MayRings$Letters" "toldAt" "[I") (List.mem_of_getElem? (i := 10) rfl)) (fun _ h9 => h9) rfl hin rfl (by decide +kernel) rfl rfl (Nat.le_of_ble_eq_true rfl) dX2_init_41 (fun H locs hP hD hS => ?_)
  have hP : va_P (dC, dI) vwCl [(h0, .inr (2, [.ref q410, .ref q411, .ref q412, .ref q413, .ref q414, .null, .int 0, .int 0])), (q410, .inl (cI, 20, .inl (fun _ => 0))), (q411, .inl (cI, 20, .inl (fun _ => 0))), (q412, .inl (cZ, 20, .inl (fun _ => 0))), (q413, .inl (cZ, 20, .inl (fun _ => 0))), (q414, .inl (cI, 20, .inl (fun _ => 0)))] H := hP
  have hD : va_D A [(h0, .inr (2, [.ref q410, .ref q411, .ref q412, .ref q413, .ref q414, .null, .int 0, .int 0])), (q410, .inl (cI, 20, .inl (fun _ => 0))), (q411, .inl (cI, 20, .inl (fun _ => 0))), (q412, .inl (cZ, 20, .inl (fun _ => 0))), (q413, .inl (cZ, 20, .inl (fun _ => 0))), (q414, .inl (cI, 20, .inl (fun _ => 0)))] := hD
  refine lv_aload_n hx hb dX2_init_44 rfl (lv_at hl 0 rfl) ?_
  refine lv_bipush (v := 20) hx hb dX2_init_45 (by decide) ?_
  refine nw_arr (atype := .int) (N' := 20) (a0 := (20, .inl (fun _ => 0))) (ty := .int) hx hb (hts (.arrayClass .int) (List.mem_of_getElem? (i := 4) rfl)) rfl hK hP hD hS hA 1 rfl (fun _ => rfl) (by decide +kernel) (by decide +kernel) (by decide +kernel) (Nat.le_of_ble_eq_true rfl) (Nat.le_of_ble_eq_true rfl) dX2_init_47 (fun q415 H hP hD hS => ?_)
  refine W.widen (k := 6) (n := 120) (Nat.le_of_ble_eq_true rfl) (Nat.le_of_ble_eq_true rfl) ?_
  have hP : va_P (dC, dI) vwCl [(h0, .inr (2, [.ref q410, .ref q411, .ref q412, .ref q413, .ref q414, .null, .int 0, .int 0])), (q410, .inl (cI, 20, .inl (fun _ => 0))), (q411, .inl (cI, 20, .inl (fun _ => 0))), (q412, .inl (cZ, 20, .inl (fun _ => 0))), (q413, .inl (cZ, 20, .inl (fun _ => 0))), (q414, .inl (cI, 20, .inl (fun _ => 0))), (q415, .inl (cI, 20, .inl (fun _ => 0)))] H := hP
  have hD : va_D A [(h0, .inr (2, [.ref q410, .ref q411, .ref q412, .ref q413, .ref q414, .null, .int 0, .int 0])), (q410, .inl (cI, 20, .inl (fun _ => 0))), (q411, .inl (cI, 20, .inl (fun _ => 0))), (q412, .inl (cZ, 20, .inl (fun _ => 0))), (q413, .inl (cZ, 20, .inl (fun _ => 0))), (q414, .inl (cI, 20, .inl (fun _ => 0))), (q415, .inl (cI, 20, .inl (fun _ => 0)))] := hD
  refine va_putF (D := (dC, dI)) (ci := 2) (v := .ref q415) (ty := .array .int) (C := RX2) (T := TX2) (N := 8) hx hb hts hinX2 tyX2 tyX2_ok nmX2 hown hK hP hD hS 0 rfl rfl 5 (by decide) (hts (.fieldLink RX2 28 "MayRings$Letters" "untoldAt" "[I") (List.mem_of_getElem? (i := 11) rfl)) (fun _ h9 => h9) rfl hin rfl (by decide +kernel) rfl rfl (Nat.le_of_ble_eq_true rfl) dX2_init_49 (fun H locs hP hD hS => ?_)
  have hP : va_P (dC, dI) vwCl [(h0, .inr (2, [.ref q410, .ref q411, .ref q412, .ref q413, .ref q414, .ref q415, .int 0, .int 0])), (q410, .inl (cI, 20, .inl (fun _ => 0))), (q411, .inl (cI, 20, .inl (fun _ => 0))), (q412, .inl (cZ, 20, .inl (fun _ => 0))), (q413, .inl (cZ, 20, .inl (fun _ => 0))), (q414, .inl (cI, 20, .inl (fun _ => 0))), (q415, .inl (cI, 20, .inl (fun _ => 0)))] H := hP
  have hD : va_D A [(h0, .inr (2, [.ref q410, .ref q411, .ref q412, .ref q413, .ref q414, .ref q415, .int 0, .int 0])), (q410, .inl (cI, 20, .inl (fun _ => 0))), (q411, .inl (cI, 20, .inl (fun _ => 0))), (q412, .inl (cZ, 20, .inl (fun _ => 0))), (q413, .inl (cZ, 20, .inl (fun _ => 0))), (q414, .inl (cI, 20, .inl (fun _ => 0))), (q415, .inl (cI, 20, .inl (fun _ => 0)))] := hD
  refine lv_aload_n hx hb dX2_init_52 rfl (lv_at hl 0 rfl) ?_
  refine lv_iconst (v := 0) hx hb dX2_init_53 (by decide) ?_
  refine va_put (D := (dC, dI)) (ci := 2) (v := .int 0) (ty := .int) (C := RX2) (T := TX2) (N := 8) hx hb hts hinX2 tyX2 tyX2_ok nmX2 hown hK hP hD hS 0 rfl rfl 6 (by decide) (hts (.fieldLink RX2 31 "MayRings$Letters" "count" "I") (List.mem_of_getElem? (i := 12) rfl)) (fun _ h9 => h9) rfl (by decide +kernel) rfl rfl (Nat.le_of_ble_eq_true rfl) dX2_init_54 (fun H locs hP hD hS => ?_)
  have hP : va_P (dC, dI) vwCl [(h0, .inr (2, [.ref q410, .ref q411, .ref q412, .ref q413, .ref q414, .ref q415, .int 0, .int 0])), (q410, .inl (cI, 20, .inl (fun _ => 0))), (q411, .inl (cI, 20, .inl (fun _ => 0))), (q412, .inl (cZ, 20, .inl (fun _ => 0))), (q413, .inl (cZ, 20, .inl (fun _ => 0))), (q414, .inl (cI, 20, .inl (fun _ => 0))), (q415, .inl (cI, 20, .inl (fun _ => 0)))] H := hP
  have hD : va_D A [(h0, .inr (2, [.ref q410, .ref q411, .ref q412, .ref q413, .ref q414, .ref q415, .int 0, .int 0])), (q410, .inl (cI, 20, .inl (fun _ => 0))), (q411, .inl (cI, 20, .inl (fun _ => 0))), (q412, .inl (cZ, 20, .inl (fun _ => 0))), (q413, .inl (cZ, 20, .inl (fun _ => 0))), (q414, .inl (cI, 20, .inl (fun _ => 0))), (q415, .inl (cI, 20, .inl (fun _ => 0)))] := hD
  refine lv_aload_n hx hb dX2_init_57 rfl (lv_at hl 0 rfl) ?_
  refine lv_iconst (v := 0) hx hb dX2_init_58 (by decide) ?_
  refine va_put (D := (dC, dI)) (ci := 2) (v := .int 0) (ty := .int) (C := RX2) (T := TX2) (N := 8) hx hb hts hinX2 tyX2 tyX2_ok nmX2 hown hK hP hD hS 0 rfl rfl 7 (by decide) (hts (.fieldLink RX2 35 "MayRings$Letters" "time" "I") (List.mem_of_getElem? (i := 13) rfl)) (fun _ h9 => h9) rfl (by decide +kernel) rfl rfl (Nat.le_of_ble_eq_true rfl) dX2_init_59 (fun H locs hP hD hS => ?_)
  have hP : va_P (dC, dI) vwCl [(h0, .inr (2, [.ref q410, .ref q411, .ref q412, .ref q413, .ref q414, .ref q415, .int 0, .int 0])), (q410, .inl (cI, 20, .inl (fun _ => 0))), (q411, .inl (cI, 20, .inl (fun _ => 0))), (q412, .inl (cZ, 20, .inl (fun _ => 0))), (q413, .inl (cZ, 20, .inl (fun _ => 0))), (q414, .inl (cI, 20, .inl (fun _ => 0))), (q415, .inl (cI, 20, .inl (fun _ => 0)))] H := hP
  have hD : va_D A [(h0, .inr (2, [.ref q410, .ref q411, .ref q412, .ref q413, .ref q414, .ref q415, .int 0, .int 0])), (q410, .inl (cI, 20, .inl (fun _ => 0))), (q411, .inl (cI, 20, .inl (fun _ => 0))), (q412, .inl (cZ, 20, .inl (fun _ => 0))), (q413, .inl (cZ, 20, .inl (fun _ => 0))), (q414, .inl (cI, 20, .inl (fun _ => 0))), (q415, .inl (cI, 20, .inl (fun _ => 0)))] := hD
  have hP9 := hP.sub (ws' := [(h0, .inr (2, [.ref q410, .ref q411, .ref q412, .ref q413, .ref q414, .ref q415, .int 0, .int 0])), (q410, .inl (cI, 20, .inl (fun _ => 0))), (q411, .inl (cI, 20, .inl (fun _ => 0))), (q412, .inl (cZ, 20, .inl (fun _ => 0))), (q413, .inl (cZ, 20, .inl (fun _ => 0))), (q414, .inl (cI, 20, .inl (fun _ => 0))), (q415, .inl (cI, 20, .inl (fun _ => 0)))]) [0, 1, 2, 3, 4, 5, 6] rfl
  have hD9 := hD.sub (ws' := [(h0, .inr (2, [.ref q410, .ref q411, .ref q412, .ref q413, .ref q414, .ref q415, .int 0, .int 0])), (q410, .inl (cI, 20, .inl (fun _ => 0))), (q411, .inl (cI, 20, .inl (fun _ => 0))), (q412, .inl (cZ, 20, .inl (fun _ => 0))), (q413, .inl (cZ, 20, .inl (fun _ => 0))), (q414, .inl (cI, 20, .inl (fun _ => 0))), (q415, .inl (cI, 20, .inl (fun _ => 0)))]) [0, 1, 2, 3, 4, 5, 6] (by decide) rfl
  refine W.widen (k := 6) (n := 120) (Nat.le_of_ble_eq_true rfl) (Nat.le_of_ble_eq_true rfl) ?_
  exact W.vret hx hb hr (fun t ht hW => ⟨⟨(), rfl, trivial, ⟨q410, q411, q412, q413, q414, q415, by rw [ht]; exact hP9, hD9⟩⟩, hS.F ht⟩) hS.2.2 dX2_init_62
def v_X7_init : List Cond := Cond.code yX7_init cX7_init 1 none :: ([Cond.methodLink RX7 3 objectInit, Cond.instanceMethod objectInit, Cond.code objectInit ⟨#[0xb1]⟩ 1 none, Cond.arrayClass .int, Cond.fieldLink RX7 9 "MayRings$Ways" "ground" "[I", Cond.fieldLink RX7 15 "MayRings$Ways" "pairs" "[I", Cond.fieldLink RX7 18 "MayRings$Ways" "must" "[I", Cond.fieldLink RX7 21 "MayRings$Ways" "pairCosts" "[I", Cond.fieldLink RX7 24 "MayRings$Ways" "placeCosts" "[I", Cond.fieldLink RX7 27 "MayRings$Ways" "ahead" "[I", Cond.fieldLink RX7 30 "MayRings$Ways" "houses" "I", Cond.fieldLink RX7 34 "MayRings$Ways" "size" "I", Cond.fieldLink RX7 37 "MayRings$Ways" "closes" "Z", Cond.fieldLink RX7 41 "MayRings$Ways" "cost" "I", Cond.fieldLink RX7 44 "MayRings$Ways" "never" "Z", Cond.fieldLink RX7 47 "MayRings$Ways" "sort" "I", Cond.fieldLink RX7 50 "MayRings$Ways" "watched" "I", Cond.fieldLink RX7 53 "MayRings$Ways" "start" "I"] ++ (wsX70 ++ ([])))
theorem k_X7_init : GoodIn lw_tbl v_X7_init := gd_c (List.mem_of_getElem? (i := 438) (by decide +kernel)) rfl (goodIn_app (gd_c (List.mem_of_getElem? (i := 439) (by decide +kernel)) rfl (gd_c (List.mem_of_getElem? (i := 155) (by decide +kernel)) rfl (gd_c (List.mem_of_getElem? (i := 156) (by decide +kernel)) rfl (gd_c (List.mem_of_getElem? (i := 206) (by decide +kernel)) rfl (gd_c (List.mem_of_getElem? (i := 440) (by decide +kernel)) rfl (gd_c (List.mem_of_getElem? (i := 443) (by decide +kernel)) rfl (gd_c (List.mem_of_getElem? (i := 446) (by decide +kernel)) rfl (gd_c (List.mem_of_getElem? (i := 447) (by decide +kernel)) rfl (gd_c (List.mem_of_getElem? (i := 449) (by decide +kernel)) rfl (gd_c (List.mem_of_getElem? (i := 451) (by decide +kernel)) rfl (gd_c (List.mem_of_getElem? (i := 452) (by decide +kernel)) rfl (gd_c (List.mem_of_getElem? (i := 454) (by decide +kernel)) rfl (gd_c (List.mem_of_getElem? (i := 457) (by decide +kernel)) rfl (gd_c (List.mem_of_getElem? (i := 459) (by decide +kernel)) rfl (gd_c (List.mem_of_getElem? (i := 461) (by decide +kernel)) rfl (gd_c (List.mem_of_getElem? (i := 462) (by decide +kernel)) rfl (gd_c (List.mem_of_getElem? (i := 463) (by decide +kernel)) rfl (gd_c (List.mem_of_getElem? (i := 464) (by decide +kernel)) rfl (gd_nil))))))))))))))))))) (goodIn_app kfX7 (gd_nil)))
set_option maxHeartbeats 600000 in
set_option maxRecDepth 100000 in
theorem c_X7_init (l : Launch) (dC : Nat → ClassId) (dI : Nat → Nat → Nat) (cB cI cJ cZ cP : ClassId) (h0 : Nat) (sz : Nat) : Met l yX7_init v_X7_init ({ frames := 1, cells := 6, slots := 4797, locals := 22 }) (va_Pc [.ref h0] (fun U => U.heap.size = sz ∧ va_P (dC, dI) vwCl [(h0, .inr (7, [.null, .null, .null, .null, .null, .null, .int 0, .int 0, .int 0, .int 0, .int 0, .int 0, .int 0, .int 0]))] U.heap ∧ va_K (dC, dI) vwCl (ty5 cB cI cJ cZ cP) U ∧ va_D (fun _ => True) [(h0, .inr (7, [.null, .null, .null, .null, .null, .null, .int 0, .int 0, .int 0, .int 0, .int 0, .int 0, .int 0, .int 0]))])) (va_Qv (fun _ : Unit => True) (fun _ t => ∃ (e0 : Nat) (e1 : Nat) (e2 : Nat) (e3 : Nat) (e4 : Nat) (e5 : Nat), va_P (dC, dI) vwCl [(h0, .inr (7, [.ref e0, .ref e1, .ref e2, .ref e3, .ref e4, .ref e5, .int 0, .int 0, .int 0, .int 0, .int 0, .int 0, .int 0, .int 0])), (e0, .inl (cI, 9, .inl (fun _ => 0))), (e1, .inl (cI, 9, .inl (fun _ => 0))), (e2, .inl (cI, 9, .inl (fun _ => 0))), (e3, .inl (cI, 81, .inl (fun _ => 0))), (e4, .inl (cI, 81, .inl (fun _ => 0))), (e5, .inl (cI, 4608, .inl (fun _ => 0)))] t.heap ∧ va_D (va_A [(h0, .inr (7, [.null, .null, .null, .null, .null, .null, .int 0, .int 0, .int 0, .int 0, .int 0, .int 0, .int 0, .int 0]))] sz) [(h0, .inr (7, [.ref e0, .ref e1, .ref e2, .ref e3, .ref e4, .ref e5, .int 0, .int 0, .int 0, .int 0, .int 0, .int 0, .int 0, .int 0])), (e0, .inl (cI, 9, .inl (fun _ => 0))), (e1, .inl (cI, 9, .inl (fun _ => 0))), (e2, .inl (cI, 9, .inl (fun _ => 0))), (e3, .inl (cI, 81, .inl (fun _ => 0))), (e4, .inl (cI, 81, .inl (fun _ => 0))), (e5, .inl (cI, 4608, .inl (fun _ => 0)))]) (va_A [(h0, .inr (7, [.null, .null, .null, .null, .null, .null, .int 0, .int 0, .int 0, .int 0, .int 0, .int 0, .int 0, .int 0]))] sz)) 6 4797 (va_A [(h0, .inr (7, [.null, .null, .null, .null, .null, .null, .int 0, .int 0, .int 0, .int 0, .int 0, .int 0, .int 0, .int 0]))] sz) := by
  refine Met.ofW (cc := cX7_init) (maxL := 1) (ret := none) (by decide) rfl ?_
  intro p e s m args below meth c s₁ B hml hv
  obtain ⟨rfl, hsz, hP, hK, hD0⟩ := hv
  have hx := B.exec
  have hb := B.bytes
  have hr := B.returns
  have hts := atoms_spec (ws := v_X7_init) B.pre
  have hown : s.vm.findClass RX7 = some m.cls := findClass_of_methodNamed B.named
  have hlocks := B.notSynchronized
  have hin : meth.name = "<init>" := (name_of_methodNamed B.named B.method).1
  have hinX7 : ∀ w ∈ wsX70, w ∈ v_X7_init := fun _ h => List.mem_cons_of_mem _ (List.mem_append_right _ (List.mem_append_left _ h))
  subst hsz
  have hD := hD0.self (sz := s.heap.size)
  generalize hAe : va_A [(h0, .inr (7, [.null, .null, .null, .null, .null, .null, .int 0, .int 0, .int 0, .int 0, .int 0, .int 0, .int 0, .int 0]))] s.heap.size = A at hD ⊢
  have hA : ∀ q : Nat, s.heap.size ≤ q → A q := fun q h => by rw [← hAe]; exact Or.inr h
  have hP : va_P (dC, dI) vwCl [(h0, .inr (7, [.null, .null, .null, .null, .null, .null, .int 0, .int 0, .int 0, .int 0, .int 0, .int 0, .int 0, .int 0]))] s.heap := hP
  have hl := lv_entry ([.ref h0]) (n := 1) (Nat.le_of_ble_eq_true rfl)
  rw [lg_entry_eq]
  generalize (lg_sl ([.ref h0]) ++ List.replicate (1 - (lg_sl ([.ref h0])).length) Slot.unset).toArray = ls at hl ⊢
  have hl : lv_has ls 1 [(0, .ref h0)] := hl
  refine W_gen (A := A) hP (fun H locs hP hS => ?_)
  refine lv_aload_n hx hb dX7_init_0 rfl (lv_at hl 0 rfl) ?_
  refine W.objInit hx hb hown (hts (.methodLink RX7 3 objectInit) (List.mem_of_getElem? (i := 1) rfl)) (hts (.instanceMethod objectInit) (List.mem_of_getElem? (i := 2) rfl)) (hts (.code objectInit ⟨#[0xb1]⟩ 1 none) (List.mem_of_getElem? (i := 3) rfl)) rfl (by rw [hml]; exact hl.1) rfl dX7_init_1 (Nat.le_of_ble_eq_true rfl) (Nat.le_of_ble_eq_true rfl) ?_
  refine W.eq (g2 := F0 m 4 ls []) rfl ?_
  refine lv_aload_n hx hb dX7_init_4 rfl (lv_at hl 0 rfl) ?_
  refine lv_bipush (v := 9) hx hb dX7_init_5 (by decide) ?_
  refine nw_arr (atype := .int) (N' := 9) (a0 := (9, .inl (fun _ => 0))) (ty := .int) hx hb (hts (.arrayClass .int) (List.mem_of_getElem? (i := 4) rfl)) rfl hK hP hD hS hA 1 rfl (fun _ => rfl) (by decide +kernel) (by decide +kernel) (by decide +kernel) (Nat.le_of_ble_eq_true rfl) (Nat.le_of_ble_eq_true rfl) dX7_init_7 (fun q416 H hP hD hS => ?_)
  refine W.widen (k := 1) (n := 9) (Nat.le_of_ble_eq_true rfl) (Nat.le_of_ble_eq_true rfl) ?_
  have hP : va_P (dC, dI) vwCl [(h0, .inr (7, [.null, .null, .null, .null, .null, .null, .int 0, .int 0, .int 0, .int 0, .int 0, .int 0, .int 0, .int 0])), (q416, .inl (cI, 9, .inl (fun _ => 0)))] H := hP
  have hD : va_D A [(h0, .inr (7, [.null, .null, .null, .null, .null, .null, .int 0, .int 0, .int 0, .int 0, .int 0, .int 0, .int 0, .int 0])), (q416, .inl (cI, 9, .inl (fun _ => 0)))] := hD
  refine va_putF (D := (dC, dI)) (ci := 7) (v := .ref q416) (ty := .array .int) (C := RX7) (T := TX7) (N := 14) hx hb hts hinX7 tyX7 tyX7_ok nmX7 hown hK hP hD hS 0 rfl rfl 0 (by decide) (hts (.fieldLink RX7 9 "MayRings$Ways" "ground" "[I") (List.mem_of_getElem? (i := 5) rfl)) (fun _ h9 => h9) rfl hin rfl (by decide +kernel) rfl rfl (Nat.le_of_ble_eq_true rfl) dX7_init_9 (fun H locs hP hD hS => ?_)
  have hP : va_P (dC, dI) vwCl [(h0, .inr (7, [.ref q416, .null, .null, .null, .null, .null, .int 0, .int 0, .int 0, .int 0, .int 0, .int 0, .int 0, .int 0])), (q416, .inl (cI, 9, .inl (fun _ => 0)))] H := hP
  have hD : va_D A [(h0, .inr (7, [.ref q416, .null, .null, .null, .null, .null, .int 0, .int 0, .int 0, .int 0, .int 0, .int 0, .int 0, .int 0])), (q416, .inl (cI, 9, .inl (fun _ => 0)))] := hD
  refine lv_aload_n hx hb dX7_init_12 rfl (lv_at hl 0 rfl) ?_
  refine lv_bipush (v := 9) hx hb dX7_init_13 (by decide) ?_
  refine nw_arr (atype := .int) (N' := 9) (a0 := (9, .inl (fun _ => 0))) (ty := .int) hx hb (hts (.arrayClass .int) (List.mem_of_getElem? (i := 4) rfl)) rfl hK hP hD hS hA 1 rfl (fun _ => rfl) (by decide +kernel) (by decide +kernel) (by decide +kernel) (Nat.le_of_ble_eq_true rfl) (Nat.le_of_ble_eq_true rfl) dX7_init_15 (fun q417 H hP hD hS => ?_)
  refine W.widen (k := 2) (n := 18) (Nat.le_of_ble_eq_true rfl) (Nat.le_of_ble_eq_true rfl) ?_
  have hP : va_P (dC, dI) vwCl [(h0, .inr (7, [.ref q416, .null, .null, .null, .null, .null, .int 0, .int 0, .int 0, .int 0, .int 0, .int 0, .int 0, .int 0])), (q416, .inl (cI, 9, .inl (fun _ => 0))), (q417, .inl (cI, 9, .inl (fun _ => 0)))] H := hP
  have hD : va_D A [(h0, .inr (7, [.ref q416, .null, .null, .null, .null, .null, .int 0, .int 0, .int 0, .int 0, .int 0, .int 0, .int 0, .int 0])), (q416, .inl (cI, 9, .inl (fun _ => 0))), (q417, .inl (cI, 9, .inl (fun _ => 0)))] := hD
  refine va_putF (D := (dC, dI)) (ci := 7) (v := .ref q417) (ty := .array .int) (C := RX7) (T := TX7) (N := 14) hx hb hts hinX7 tyX7 tyX7_ok nmX7 hown hK hP hD hS 0 rfl rfl 1 (by decide) (hts (.fieldLink RX7 15 "MayRings$Ways" "pairs" "[I") (List.mem_of_getElem? (i := 6) rfl)) (fun _ h9 => h9) rfl hin rfl (by decide +kernel) rfl rfl (Nat.le_of_ble_eq_true rfl) dX7_init_17 (fun H locs hP hD hS => ?_)
  have hP : va_P (dC, dI) vwCl [(h0, .inr (7, [.ref q416, .ref q417, .null, .null, .null, .null, .int 0, .int 0, .int 0, .int 0, .int 0, .int 0, .int 0, .int 0])), (q416, .inl (cI, 9, .inl (fun _ => 0))), (q417, .inl (cI, 9, .inl (fun _ => 0)))] H := hP
  have hD : va_D A [(h0, .inr (7, [.ref q416, .ref q417, .null, .null, .null, .null, .int 0, .int 0, .int 0, .int 0, .int 0, .int 0, .int 0, .int 0])), (q416, .inl (cI, 9, .inl (fun _ => 0))), (q417, .inl (cI, 9, .inl (fun _ => 0)))] := hD
  refine lv_aload_n hx hb dX7_init_20 rfl (lv_at hl 0 rfl) ?_
  refine lv_bipush (v := 9) hx hb dX7_init_21 (by decide) ?_
  refine nw_arr (atype := .int) (N' := 9) (a0 := (9, .inl (fun _ => 0))) (ty := .int) hx hb (hts (.arrayClass .int) (List.mem_of_getElem? (i := 4) rfl)) rfl hK hP hD hS hA 1 rfl (fun _ => rfl) (by decide +kernel) (by decide +kernel) (by decide +kernel) (Nat.le_of_ble_eq_true rfl) (Nat.le_of_ble_eq_true rfl) dX7_init_23 (fun q418 H hP hD hS => ?_)
  refine W.widen (k := 3) (n := 27) (Nat.le_of_ble_eq_true rfl) (Nat.le_of_ble_eq_true rfl) ?_
  have hP : va_P (dC, dI) vwCl [(h0, .inr (7, [.ref q416, .ref q417, .null, .null, .null, .null, .int 0, .int 0, .int 0, .int 0, .int 0, .int 0, .int 0, .int 0])), (q416, .inl (cI, 9, .inl (fun _ => 0))), (q417, .inl (cI, 9, .inl (fun _ => 0))), (q418, .inl (cI, 9, .inl (fun _ => 0)))] H := hP
  have hD : va_D A [(h0, .inr (7, [.ref q416, .ref q417, .null, .null, .null, .null, .int 0, .int 0, .int 0, .int 0, .int 0, .int 0, .int 0, .int 0])), (q416, .inl (cI, 9, .inl (fun _ => 0))), (q417, .inl (cI, 9, .inl (fun _ => 0))), (q418, .inl (cI, 9, .inl (fun _ => 0)))] := hD
  refine va_putF (D := (dC, dI)) (ci := 7) (v := .ref q418) (ty := .array .int) (C := RX7) (T := TX7) (N := 14) hx hb hts hinX7 tyX7 tyX7_ok nmX7 hown hK hP hD hS 0 rfl rfl 2 (by decide) (hts (.fieldLink RX7 18 "MayRings$Ways" "must" "[I") (List.mem_of_getElem? (i := 7) rfl)) (fun _ h9 => h9) rfl hin rfl (by decide +kernel) rfl rfl (Nat.le_of_ble_eq_true rfl) dX7_init_25 (fun H locs hP hD hS => ?_)
  have hP : va_P (dC, dI) vwCl [(h0, .inr (7, [.ref q416, .ref q417, .ref q418, .null, .null, .null, .int 0, .int 0, .int 0, .int 0, .int 0, .int 0, .int 0, .int 0])), (q416, .inl (cI, 9, .inl (fun _ => 0))), (q417, .inl (cI, 9, .inl (fun _ => 0))), (q418, .inl (cI, 9, .inl (fun _ => 0)))] H := hP
  have hD : va_D A [(h0, .inr (7, [.ref q416, .ref q417, .ref q418, .null, .null, .null, .int 0, .int 0, .int 0, .int 0, .int 0, .int 0, .int 0, .int 0])), (q416, .inl (cI, 9, .inl (fun _ => 0))), (q417, .inl (cI, 9, .inl (fun _ => 0))), (q418, .inl (cI, 9, .inl (fun _ => 0)))] := hD
  refine lv_aload_n hx hb dX7_init_28 rfl (lv_at hl 0 rfl) ?_
  refine lv_bipush (v := 81) hx hb dX7_init_29 (by decide) ?_
  refine nw_arr (atype := .int) (N' := 81) (a0 := (81, .inl (fun _ => 0))) (ty := .int) hx hb (hts (.arrayClass .int) (List.mem_of_getElem? (i := 4) rfl)) rfl hK hP hD hS hA 1 rfl (fun _ => rfl) (by decide +kernel) (by decide +kernel) (by decide +kernel) (Nat.le_of_ble_eq_true rfl) (Nat.le_of_ble_eq_true rfl) dX7_init_31 (fun q419 H hP hD hS => ?_)
  refine W.widen (k := 4) (n := 108) (Nat.le_of_ble_eq_true rfl) (Nat.le_of_ble_eq_true rfl) ?_
  have hP : va_P (dC, dI) vwCl [(h0, .inr (7, [.ref q416, .ref q417, .ref q418, .null, .null, .null, .int 0, .int 0, .int 0, .int 0, .int 0, .int 0, .int 0, .int 0])), (q416, .inl (cI, 9, .inl (fun _ => 0))), (q417, .inl (cI, 9, .inl (fun _ => 0))), (q418, .inl (cI, 9, .inl (fun _ => 0))), (q419, .inl (cI, 81, .inl (fun _ => 0)))] H := hP
  have hD : va_D A [(h0, .inr (7, [.ref q416, .ref q417, .ref q418, .null, .null, .null, .int 0, .int 0, .int 0, .int 0, .int 0, .int 0, .int 0, .int 0])), (q416, .inl (cI, 9, .inl (fun _ => 0))), (q417, .inl (cI, 9, .inl (fun _ => 0))), (q418, .inl (cI, 9, .inl (fun _ => 0))), (q419, .inl (cI, 81, .inl (fun _ => 0)))] := hD
  refine va_putF (D := (dC, dI)) (ci := 7) (v := .ref q419) (ty := .array .int) (C := RX7) (T := TX7) (N := 14) hx hb hts hinX7 tyX7 tyX7_ok nmX7 hown hK hP hD hS 0 rfl rfl 3 (by decide) (hts (.fieldLink RX7 21 "MayRings$Ways" "pairCosts" "[I") (List.mem_of_getElem? (i := 8) rfl)) (fun _ h9 => h9) rfl hin rfl (by decide +kernel) rfl rfl (Nat.le_of_ble_eq_true rfl) dX7_init_33 (fun H locs hP hD hS => ?_)
  have hP : va_P (dC, dI) vwCl [(h0, .inr (7, [.ref q416, .ref q417, .ref q418, .ref q419, .null, .null, .int 0, .int 0, .int 0, .int 0, .int 0, .int 0, .int 0, .int 0])), (q416, .inl (cI, 9, .inl (fun _ => 0))), (q417, .inl (cI, 9, .inl (fun _ => 0))), (q418, .inl (cI, 9, .inl (fun _ => 0))), (q419, .inl (cI, 81, .inl (fun _ => 0)))] H := hP
  have hD : va_D A [(h0, .inr (7, [.ref q416, .ref q417, .ref q418, .ref q419, .null, .null, .int 0, .int 0, .int 0, .int 0, .int 0, .int 0, .int 0, .int 0])), (q416, .inl (cI, 9, .inl (fun _ => 0))), (q417, .inl (cI, 9, .inl (fun _ => 0))), (q418, .inl (cI, 9, .inl (fun _ => 0))), (q419, .inl (cI, 81, .inl (fun _ => 0)))] := hD
  refine lv_aload_n hx hb dX7_init_36 rfl (lv_at hl 0 rfl) ?_
  refine lv_bipush (v := 81) hx hb dX7_init_37 (by decide) ?_
  refine nw_arr (atype := .int) (N' := 81) (a0 := (81, .inl (fun _ => 0))) (ty := .int) hx hb (hts (.arrayClass .int) (List.mem_of_getElem? (i := 4) rfl)) rfl hK hP hD hS hA 1 rfl (fun _ => rfl) (by decide +kernel) (by decide +kernel) (by decide +kernel) (Nat.le_of_ble_eq_true rfl) (Nat.le_of_ble_eq_true rfl) dX7_init_39 (fun q420 H hP hD hS => ?_)
  refine W.widen (k := 5) (n := 189) (Nat.le_of_ble_eq_true rfl) (Nat.le_of_ble_eq_true rfl) ?_
  have hP : va_P (dC, dI) vwCl [(h0, .inr (7, [.ref q416, .ref q417, .ref q418, .ref q419, .null, .null, .int 0, .int 0, .int 0, .int 0, .int 0, .int 0, .int 0, .int 0])), (q416, .inl (cI, 9, .inl (fun _ => 0))), (q417, .inl (cI, 9, .inl (fun _ => 0))), (q418, .inl (cI, 9, .inl (fun _ => 0))), (q419, .inl (cI, 81, .inl (fun _ => 0))), (q420, .inl (cI, 81, .inl (fun _ => 0)))] H := hP
  have hD : va_D A [(h0, .inr (7, [.ref q416, .ref q417, .ref q418, .ref q419, .null, .null, .int 0, .int 0, .int 0, .int 0, .int 0, .int 0, .int 0, .int 0])), (q416, .inl (cI, 9, .inl (fun _ => 0))), (q417, .inl (cI, 9, .inl (fun _ => 0))), (q418, .inl (cI, 9, .inl (fun _ => 0))), (q419, .inl (cI, 81, .inl (fun _ => 0))), (q420, .inl (cI, 81, .inl (fun _ => 0)))] := hD
  refine va_putF (D := (dC, dI)) (ci := 7) (v := .ref q420) (ty := .array .int) (C := RX7) (T := TX7) (N := 14) hx hb hts hinX7 tyX7 tyX7_ok nmX7 hown hK hP hD hS 0 rfl rfl 4 (by decide) (hts (.fieldLink RX7 24 "MayRings$Ways" "placeCosts" "[I") (List.mem_of_getElem? (i := 9) rfl)) (fun _ h9 => h9) rfl hin rfl (by decide +kernel) rfl rfl (Nat.le_of_ble_eq_true rfl) dX7_init_41 (fun H locs hP hD hS => ?_)
  have hP : va_P (dC, dI) vwCl [(h0, .inr (7, [.ref q416, .ref q417, .ref q418, .ref q419, .ref q420, .null, .int 0, .int 0, .int 0, .int 0, .int 0, .int 0, .int 0, .int 0])), (q416, .inl (cI, 9, .inl (fun _ => 0))), (q417, .inl (cI, 9, .inl (fun _ => 0))), (q418, .inl (cI, 9, .inl (fun _ => 0))), (q419, .inl (cI, 81, .inl (fun _ => 0))), (q420, .inl (cI, 81, .inl (fun _ => 0)))] H := hP
  have hD : va_D A [(h0, .inr (7, [.ref q416, .ref q417, .ref q418, .ref q419, .ref q420, .null, .int 0, .int 0, .int 0, .int 0, .int 0, .int 0, .int 0, .int 0])), (q416, .inl (cI, 9, .inl (fun _ => 0))), (q417, .inl (cI, 9, .inl (fun _ => 0))), (q418, .inl (cI, 9, .inl (fun _ => 0))), (q419, .inl (cI, 81, .inl (fun _ => 0))), (q420, .inl (cI, 81, .inl (fun _ => 0)))] := hD
  refine lv_aload_n hx hb dX7_init_44 rfl (lv_at hl 0 rfl) ?_
  refine lv_sipush (v := 4608) hx hb dX7_init_45 (by decide) ?_
  refine nw_arr (atype := .int) (N' := 4608) (a0 := (4608, .inl (fun _ => 0))) (ty := .int) hx hb (hts (.arrayClass .int) (List.mem_of_getElem? (i := 4) rfl)) rfl hK hP hD hS hA 1 rfl (fun _ => rfl) (by decide +kernel) (by decide +kernel) (by decide +kernel) (Nat.le_of_ble_eq_true rfl) (Nat.le_of_ble_eq_true rfl) dX7_init_48 (fun q421 H hP hD hS => ?_)
  refine W.widen (k := 6) (n := 4797) (Nat.le_of_ble_eq_true rfl) (Nat.le_of_ble_eq_true rfl) ?_
  have hP : va_P (dC, dI) vwCl [(h0, .inr (7, [.ref q416, .ref q417, .ref q418, .ref q419, .ref q420, .null, .int 0, .int 0, .int 0, .int 0, .int 0, .int 0, .int 0, .int 0])), (q416, .inl (cI, 9, .inl (fun _ => 0))), (q417, .inl (cI, 9, .inl (fun _ => 0))), (q418, .inl (cI, 9, .inl (fun _ => 0))), (q419, .inl (cI, 81, .inl (fun _ => 0))), (q420, .inl (cI, 81, .inl (fun _ => 0))), (q421, .inl (cI, 4608, .inl (fun _ => 0)))] H := hP
  have hD : va_D A [(h0, .inr (7, [.ref q416, .ref q417, .ref q418, .ref q419, .ref q420, .null, .int 0, .int 0, .int 0, .int 0, .int 0, .int 0, .int 0, .int 0])), (q416, .inl (cI, 9, .inl (fun _ => 0))), (q417, .inl (cI, 9, .inl (fun _ => 0))), (q418, .inl (cI, 9, .inl (fun _ => 0))), (q419, .inl (cI, 81, .inl (fun _ => 0))), (q420, .inl (cI, 81, .inl (fun _ => 0))), (q421, .inl (cI, 4608, .inl (fun _ => 0)))] := hD
  refine va_putF (D := (dC, dI)) (ci := 7) (v := .ref q421) (ty := .array .int) (C := RX7) (T := TX7) (N := 14) hx hb hts hinX7 tyX7 tyX7_ok nmX7 hown hK hP hD hS 0 rfl rfl 5 (by decide) (hts (.fieldLink RX7 27 "MayRings$Ways" "ahead" "[I") (List.mem_of_getElem? (i := 10) rfl)) (fun _ h9 => h9) rfl hin rfl (by decide +kernel) rfl rfl (Nat.le_of_ble_eq_true rfl) dX7_init_50 (fun H locs hP hD hS => ?_)
  have hP : va_P (dC, dI) vwCl [(h0, .inr (7, [.ref q416, .ref q417, .ref q418, .ref q419, .ref q420, .ref q421, .int 0, .int 0, .int 0, .int 0, .int 0, .int 0, .int 0, .int 0])), (q416, .inl (cI, 9, .inl (fun _ => 0))), (q417, .inl (cI, 9, .inl (fun _ => 0))), (q418, .inl (cI, 9, .inl (fun _ => 0))), (q419, .inl (cI, 81, .inl (fun _ => 0))), (q420, .inl (cI, 81, .inl (fun _ => 0))), (q421, .inl (cI, 4608, .inl (fun _ => 0)))] H := hP
  have hD : va_D A [(h0, .inr (7, [.ref q416, .ref q417, .ref q418, .ref q419, .ref q420, .ref q421, .int 0, .int 0, .int 0, .int 0, .int 0, .int 0, .int 0, .int 0])), (q416, .inl (cI, 9, .inl (fun _ => 0))), (q417, .inl (cI, 9, .inl (fun _ => 0))), (q418, .inl (cI, 9, .inl (fun _ => 0))), (q419, .inl (cI, 81, .inl (fun _ => 0))), (q420, .inl (cI, 81, .inl (fun _ => 0))), (q421, .inl (cI, 4608, .inl (fun _ => 0)))] := hD
  refine lv_aload_n hx hb dX7_init_53 rfl (lv_at hl 0 rfl) ?_
  refine lv_iconst (v := 0) hx hb dX7_init_54 (by decide) ?_
  refine va_put (D := (dC, dI)) (ci := 7) (v := .int 0) (ty := .int) (C := RX7) (T := TX7) (N := 14) hx hb hts hinX7 tyX7 tyX7_ok nmX7 hown hK hP hD hS 0 rfl rfl 6 (by decide) (hts (.fieldLink RX7 30 "MayRings$Ways" "houses" "I") (List.mem_of_getElem? (i := 11) rfl)) (fun _ h9 => h9) rfl (by decide +kernel) rfl rfl (Nat.le_of_ble_eq_true rfl) dX7_init_55 (fun H locs hP hD hS => ?_)
  have hP : va_P (dC, dI) vwCl [(h0, .inr (7, [.ref q416, .ref q417, .ref q418, .ref q419, .ref q420, .ref q421, .int 0, .int 0, .int 0, .int 0, .int 0, .int 0, .int 0, .int 0])), (q416, .inl (cI, 9, .inl (fun _ => 0))), (q417, .inl (cI, 9, .inl (fun _ => 0))), (q418, .inl (cI, 9, .inl (fun _ => 0))), (q419, .inl (cI, 81, .inl (fun _ => 0))), (q420, .inl (cI, 81, .inl (fun _ => 0))), (q421, .inl (cI, 4608, .inl (fun _ => 0)))] H := hP
  have hD : va_D A [(h0, .inr (7, [.ref q416, .ref q417, .ref q418, .ref q419, .ref q420, .ref q421, .int 0, .int 0, .int 0, .int 0, .int 0, .int 0, .int 0, .int 0])), (q416, .inl (cI, 9, .inl (fun _ => 0))), (q417, .inl (cI, 9, .inl (fun _ => 0))), (q418, .inl (cI, 9, .inl (fun _ => 0))), (q419, .inl (cI, 81, .inl (fun _ => 0))), (q420, .inl (cI, 81, .inl (fun _ => 0))), (q421, .inl (cI, 4608, .inl (fun _ => 0)))] := hD
  refine lv_aload_n hx hb dX7_init_58 rfl (lv_at hl 0 rfl) ?_
  refine lv_iconst (v := 0) hx hb dX7_init_59 (by decide) ?_
  refine va_put (D := (dC, dI)) (ci := 7) (v := .int 0) (ty := .int) (C := RX7) (T := TX7) (N := 14) hx hb hts hinX7 tyX7 tyX7_ok nmX7 hown hK hP hD hS 0 rfl rfl 7 (by decide) (hts (.fieldLink RX7 34 "MayRings$Ways" "size" "I") (List.mem_of_getElem? (i := 12) rfl)) (fun _ h9 => h9) rfl (by decide +kernel) rfl rfl (Nat.le_of_ble_eq_true rfl) dX7_init_60 (fun H locs hP hD hS => ?_)
  have hP : va_P (dC, dI) vwCl [(h0, .inr (7, [.ref q416, .ref q417, .ref q418, .ref q419, .ref q420, .ref q421, .int 0, .int 0, .int 0, .int 0, .int 0, .int 0, .int 0, .int 0])), (q416, .inl (cI, 9, .inl (fun _ => 0))), (q417, .inl (cI, 9, .inl (fun _ => 0))), (q418, .inl (cI, 9, .inl (fun _ => 0))), (q419, .inl (cI, 81, .inl (fun _ => 0))), (q420, .inl (cI, 81, .inl (fun _ => 0))), (q421, .inl (cI, 4608, .inl (fun _ => 0)))] H := hP
  have hD : va_D A [(h0, .inr (7, [.ref q416, .ref q417, .ref q418, .ref q419, .ref q420, .ref q421, .int 0, .int 0, .int 0, .int 0, .int 0, .int 0, .int 0, .int 0])), (q416, .inl (cI, 9, .inl (fun _ => 0))), (q417, .inl (cI, 9, .inl (fun _ => 0))), (q418, .inl (cI, 9, .inl (fun _ => 0))), (q419, .inl (cI, 81, .inl (fun _ => 0))), (q420, .inl (cI, 81, .inl (fun _ => 0))), (q421, .inl (cI, 4608, .inl (fun _ => 0)))] := hD
  refine lv_aload_n hx hb dX7_init_63 rfl (lv_at hl 0 rfl) ?_
  refine lv_iconst (v := 0) hx hb dX7_init_64 (by decide) ?_
  refine va_put (D := (dC, dI)) (ci := 7) (v := .int 0) (ty := .boolean) (C := RX7) (T := TX7) (N := 14) hx hb hts hinX7 tyX7 tyX7_ok nmX7 hown hK hP hD hS 0 rfl rfl 8 (by decide) (hts (.fieldLink RX7 37 "MayRings$Ways" "closes" "Z") (List.mem_of_getElem? (i := 13) rfl)) (fun _ h9 => h9) rfl (by decide +kernel) rfl rfl (Nat.le_of_ble_eq_true rfl) dX7_init_65 (fun H locs hP hD hS => ?_)
  have hP : va_P (dC, dI) vwCl [(h0, .inr (7, [.ref q416, .ref q417, .ref q418, .ref q419, .ref q420, .ref q421, .int 0, .int 0, .int 0, .int 0, .int 0, .int 0, .int 0, .int 0])), (q416, .inl (cI, 9, .inl (fun _ => 0))), (q417, .inl (cI, 9, .inl (fun _ => 0))), (q418, .inl (cI, 9, .inl (fun _ => 0))), (q419, .inl (cI, 81, .inl (fun _ => 0))), (q420, .inl (cI, 81, .inl (fun _ => 0))), (q421, .inl (cI, 4608, .inl (fun _ => 0)))] H := hP
  have hD : va_D A [(h0, .inr (7, [.ref q416, .ref q417, .ref q418, .ref q419, .ref q420, .ref q421, .int 0, .int 0, .int 0, .int 0, .int 0, .int 0, .int 0, .int 0])), (q416, .inl (cI, 9, .inl (fun _ => 0))), (q417, .inl (cI, 9, .inl (fun _ => 0))), (q418, .inl (cI, 9, .inl (fun _ => 0))), (q419, .inl (cI, 81, .inl (fun _ => 0))), (q420, .inl (cI, 81, .inl (fun _ => 0))), (q421, .inl (cI, 4608, .inl (fun _ => 0)))] := hD
  refine lv_aload_n hx hb dX7_init_68 rfl (lv_at hl 0 rfl) ?_
  refine lv_iconst (v := 0) hx hb dX7_init_69 (by decide) ?_
  refine va_put (D := (dC, dI)) (ci := 7) (v := .int 0) (ty := .int) (C := RX7) (T := TX7) (N := 14) hx hb hts hinX7 tyX7 tyX7_ok nmX7 hown hK hP hD hS 0 rfl rfl 9 (by decide) (hts (.fieldLink RX7 41 "MayRings$Ways" "cost" "I") (List.mem_of_getElem? (i := 14) rfl)) (fun _ h9 => h9) rfl (by decide +kernel) rfl rfl (Nat.le_of_ble_eq_true rfl) dX7_init_70 (fun H locs hP hD hS => ?_)
  have hP : va_P (dC, dI) vwCl [(h0, .inr (7, [.ref q416, .ref q417, .ref q418, .ref q419, .ref q420, .ref q421, .int 0, .int 0, .int 0, .int 0, .int 0, .int 0, .int 0, .int 0])), (q416, .inl (cI, 9, .inl (fun _ => 0))), (q417, .inl (cI, 9, .inl (fun _ => 0))), (q418, .inl (cI, 9, .inl (fun _ => 0))), (q419, .inl (cI, 81, .inl (fun _ => 0))), (q420, .inl (cI, 81, .inl (fun _ => 0))), (q421, .inl (cI, 4608, .inl (fun _ => 0)))] H := hP
  have hD : va_D A [(h0, .inr (7, [.ref q416, .ref q417, .ref q418, .ref q419, .ref q420, .ref q421, .int 0, .int 0, .int 0, .int 0, .int 0, .int 0, .int 0, .int 0])), (q416, .inl (cI, 9, .inl (fun _ => 0))), (q417, .inl (cI, 9, .inl (fun _ => 0))), (q418, .inl (cI, 9, .inl (fun _ => 0))), (q419, .inl (cI, 81, .inl (fun _ => 0))), (q420, .inl (cI, 81, .inl (fun _ => 0))), (q421, .inl (cI, 4608, .inl (fun _ => 0)))] := hD
  refine lv_aload_n hx hb dX7_init_73 rfl (lv_at hl 0 rfl) ?_
  refine lv_iconst (v := 0) hx hb dX7_init_74 (by decide) ?_
  refine va_put (D := (dC, dI)) (ci := 7) (v := .int 0) (ty := .boolean) (C := RX7) (T := TX7) (N := 14) hx hb hts hinX7 tyX7 tyX7_ok nmX7 hown hK hP hD hS 0 rfl rfl 10 (by decide) (hts (.fieldLink RX7 44 "MayRings$Ways" "never" "Z") (List.mem_of_getElem? (i := 15) rfl)) (fun _ h9 => h9) rfl (by decide +kernel) rfl rfl (Nat.le_of_ble_eq_true rfl) dX7_init_75 (fun H locs hP hD hS => ?_)
  have hP : va_P (dC, dI) vwCl [(h0, .inr (7, [.ref q416, .ref q417, .ref q418, .ref q419, .ref q420, .ref q421, .int 0, .int 0, .int 0, .int 0, .int 0, .int 0, .int 0, .int 0])), (q416, .inl (cI, 9, .inl (fun _ => 0))), (q417, .inl (cI, 9, .inl (fun _ => 0))), (q418, .inl (cI, 9, .inl (fun _ => 0))), (q419, .inl (cI, 81, .inl (fun _ => 0))), (q420, .inl (cI, 81, .inl (fun _ => 0))), (q421, .inl (cI, 4608, .inl (fun _ => 0)))] H := hP
  have hD : va_D A [(h0, .inr (7, [.ref q416, .ref q417, .ref q418, .ref q419, .ref q420, .ref q421, .int 0, .int 0, .int 0, .int 0, .int 0, .int 0, .int 0, .int 0])), (q416, .inl (cI, 9, .inl (fun _ => 0))), (q417, .inl (cI, 9, .inl (fun _ => 0))), (q418, .inl (cI, 9, .inl (fun _ => 0))), (q419, .inl (cI, 81, .inl (fun _ => 0))), (q420, .inl (cI, 81, .inl (fun _ => 0))), (q421, .inl (cI, 4608, .inl (fun _ => 0)))] := hD
  refine lv_aload_n hx hb dX7_init_78 rfl (lv_at hl 0 rfl) ?_
  refine lv_iconst (v := 0) hx hb dX7_init_79 (by decide) ?_
  refine va_put (D := (dC, dI)) (ci := 7) (v := .int 0) (ty := .int) (C := RX7) (T := TX7) (N := 14) hx hb hts hinX7 tyX7 tyX7_ok nmX7 hown hK hP hD hS 0 rfl rfl 11 (by decide) (hts (.fieldLink RX7 47 "MayRings$Ways" "sort" "I") (List.mem_of_getElem? (i := 16) rfl)) (fun _ h9 => h9) rfl (by decide +kernel) rfl rfl (Nat.le_of_ble_eq_true rfl) dX7_init_80 (fun H locs hP hD hS => ?_)
  have hP : va_P (dC, dI) vwCl [(h0, .inr (7, [.ref q416, .ref q417, .ref q418, .ref q419, .ref q420, .ref q421, .int 0, .int 0, .int 0, .int 0, .int 0, .int 0, .int 0, .int 0])), (q416, .inl (cI, 9, .inl (fun _ => 0))), (q417, .inl (cI, 9, .inl (fun _ => 0))), (q418, .inl (cI, 9, .inl (fun _ => 0))), (q419, .inl (cI, 81, .inl (fun _ => 0))), (q420, .inl (cI, 81, .inl (fun _ => 0))), (q421, .inl (cI, 4608, .inl (fun _ => 0)))] H := hP
  have hD : va_D A [(h0, .inr (7, [.ref q416, .ref q417, .ref q418, .ref q419, .ref q420, .ref q421, .int 0, .int 0, .int 0, .int 0, .int 0, .int 0, .int 0, .int 0])), (q416, .inl (cI, 9, .inl (fun _ => 0))), (q417, .inl (cI, 9, .inl (fun _ => 0))), (q418, .inl (cI, 9, .inl (fun _ => 0))), (q419, .inl (cI, 81, .inl (fun _ => 0))), (q420, .inl (cI, 81, .inl (fun _ => 0))), (q421, .inl (cI, 4608, .inl (fun _ => 0)))] := hD
  refine lv_aload_n hx hb dX7_init_83 rfl (lv_at hl 0 rfl) ?_
  refine lv_iconst (v := 0) hx hb dX7_init_84 (by decide) ?_
  refine va_put (D := (dC, dI)) (ci := 7) (v := .int 0) (ty := .int) (C := RX7) (T := TX7) (N := 14) hx hb hts hinX7 tyX7 tyX7_ok nmX7 hown hK hP hD hS 0 rfl rfl 12 (by decide) (hts (.fieldLink RX7 50 "MayRings$Ways" "watched" "I") (List.mem_of_getElem? (i := 17) rfl)) (fun _ h9 => h9) rfl (by decide +kernel) rfl rfl (Nat.le_of_ble_eq_true rfl) dX7_init_85 (fun H locs hP hD hS => ?_)
  have hP : va_P (dC, dI) vwCl [(h0, .inr (7, [.ref q416, .ref q417, .ref q418, .ref q419, .ref q420, .ref q421, .int 0, .int 0, .int 0, .int 0, .int 0, .int 0, .int 0, .int 0])), (q416, .inl (cI, 9, .inl (fun _ => 0))), (q417, .inl (cI, 9, .inl (fun _ => 0))), (q418, .inl (cI, 9, .inl (fun _ => 0))), (q419, .inl (cI, 81, .inl (fun _ => 0))), (q420, .inl (cI, 81, .inl (fun _ => 0))), (q421, .inl (cI, 4608, .inl (fun _ => 0)))] H := hP
  have hD : va_D A [(h0, .inr (7, [.ref q416, .ref q417, .ref q418, .ref q419, .ref q420, .ref q421, .int 0, .int 0, .int 0, .int 0, .int 0, .int 0, .int 0, .int 0])), (q416, .inl (cI, 9, .inl (fun _ => 0))), (q417, .inl (cI, 9, .inl (fun _ => 0))), (q418, .inl (cI, 9, .inl (fun _ => 0))), (q419, .inl (cI, 81, .inl (fun _ => 0))), (q420, .inl (cI, 81, .inl (fun _ => 0))), (q421, .inl (cI, 4608, .inl (fun _ => 0)))] := hD
  refine lv_aload_n hx hb dX7_init_88 rfl (lv_at hl 0 rfl) ?_
  refine lv_iconst (v := 0) hx hb dX7_init_89 (by decide) ?_
  refine va_put (D := (dC, dI)) (ci := 7) (v := .int 0) (ty := .int) (C := RX7) (T := TX7) (N := 14) hx hb hts hinX7 tyX7 tyX7_ok nmX7 hown hK hP hD hS 0 rfl rfl 13 (by decide) (hts (.fieldLink RX7 53 "MayRings$Ways" "start" "I") (List.mem_of_getElem? (i := 18) rfl)) (fun _ h9 => h9) rfl (by decide +kernel) rfl rfl (Nat.le_of_ble_eq_true rfl) dX7_init_90 (fun H locs hP hD hS => ?_)
  have hP : va_P (dC, dI) vwCl [(h0, .inr (7, [.ref q416, .ref q417, .ref q418, .ref q419, .ref q420, .ref q421, .int 0, .int 0, .int 0, .int 0, .int 0, .int 0, .int 0, .int 0])), (q416, .inl (cI, 9, .inl (fun _ => 0))), (q417, .inl (cI, 9, .inl (fun _ => 0))), (q418, .inl (cI, 9, .inl (fun _ => 0))), (q419, .inl (cI, 81, .inl (fun _ => 0))), (q420, .inl (cI, 81, .inl (fun _ => 0))), (q421, .inl (cI, 4608, .inl (fun _ => 0)))] H := hP
  have hD : va_D A [(h0, .inr (7, [.ref q416, .ref q417, .ref q418, .ref q419, .ref q420, .ref q421, .int 0, .int 0, .int 0, .int 0, .int 0, .int 0, .int 0, .int 0])), (q416, .inl (cI, 9, .inl (fun _ => 0))), (q417, .inl (cI, 9, .inl (fun _ => 0))), (q418, .inl (cI, 9, .inl (fun _ => 0))), (q419, .inl (cI, 81, .inl (fun _ => 0))), (q420, .inl (cI, 81, .inl (fun _ => 0))), (q421, .inl (cI, 4608, .inl (fun _ => 0)))] := hD
  have hP9 := hP.sub (ws' := [(h0, .inr (7, [.ref q416, .ref q417, .ref q418, .ref q419, .ref q420, .ref q421, .int 0, .int 0, .int 0, .int 0, .int 0, .int 0, .int 0, .int 0])), (q416, .inl (cI, 9, .inl (fun _ => 0))), (q417, .inl (cI, 9, .inl (fun _ => 0))), (q418, .inl (cI, 9, .inl (fun _ => 0))), (q419, .inl (cI, 81, .inl (fun _ => 0))), (q420, .inl (cI, 81, .inl (fun _ => 0))), (q421, .inl (cI, 4608, .inl (fun _ => 0)))]) [0, 1, 2, 3, 4, 5, 6] rfl
  have hD9 := hD.sub (ws' := [(h0, .inr (7, [.ref q416, .ref q417, .ref q418, .ref q419, .ref q420, .ref q421, .int 0, .int 0, .int 0, .int 0, .int 0, .int 0, .int 0, .int 0])), (q416, .inl (cI, 9, .inl (fun _ => 0))), (q417, .inl (cI, 9, .inl (fun _ => 0))), (q418, .inl (cI, 9, .inl (fun _ => 0))), (q419, .inl (cI, 81, .inl (fun _ => 0))), (q420, .inl (cI, 81, .inl (fun _ => 0))), (q421, .inl (cI, 4608, .inl (fun _ => 0)))]) [0, 1, 2, 3, 4, 5, 6] (by decide) rfl
  refine W.widen (k := 6) (n := 4797) (Nat.le_of_ble_eq_true rfl) (Nat.le_of_ble_eq_true rfl) ?_
  exact W.vret hx hb hr (fun t ht hW => ⟨⟨(), rfl, trivial, ⟨q416, q417, q418, q419, q420, q421, by rw [ht]; exact hP9, hD9⟩⟩, hS.F ht⟩) hS.2.2 dX7_init_93
def v_X1_put : List Cond := Cond.code yX1_put cX1_put 2 none :: ([Cond.fieldLink RX1 21 "MayRings$Law" "length" "I", Cond.fieldLink RX1 11 "MayRings$Law" "codes" "[I"] ++ (wsX10 ++ ([])))
theorem k_X1_put : GoodIn lw_tbl v_X1_put := gd_c (List.mem_of_getElem? (i := 182) (by decide +kernel)) rfl (goodIn_app (gd_c (List.mem_of_getElem? (i := 186) (by decide +kernel)) rfl (gd_c (List.mem_of_getElem? (i := 183) (by decide +kernel)) rfl (gd_nil))) (goodIn_app kfX1 (gd_nil)))
set_option maxHeartbeats 600000 in
set_option maxRecDepth 100000 in
theorem c_X1_put (l : Launch) (dC : Nat → ClassId) (dI : Nat → Nat → Nat) (cB cI cJ cZ cP : ClassId) (h0 : Nat) (h1 : Nat) (h2 : Nat) (h3 : Nat) (sz : Nat) : Met l yX1_put v_X1_put ({ frames := 0, cells := 0, slots := 0, locals := 0 }) (va_Pc [.ref h0, .int (-14)] (fun U => U.heap.size = sz ∧ va_P (dC, dI) vwCl [(h0, .inr (1, [.ref h1, .ref h2, .ref h3, .int 0, .int 0, .int 0])), (h1, .inl (cI, 360, .inl (fun _ => 0)))] U.heap ∧ va_K (dC, dI) vwCl (ty5 cB cI cJ cZ cP) U ∧ va_D (fun _ => True) [(h0, .inr (1, [.ref h1, .ref h2, .ref h3, .int 0, .int 0, .int 0])), (h1, .inl (cI, 360, .inl (fun _ => 0)))])) (va_Qv (fun _ : Unit => True) (fun _ t => va_P (dC, dI) vwCl [(h0, .inr (1, [.ref h1, .ref h2, .ref h3, .int 1, .int 0, .int 0])), (h1, .inl (cI, 360, .inl (upd (fun _ => 0) (0 : Int32).toNatClampNeg (-14))))] t.heap ∧ va_D (va_A [(h0, .inr (1, [.ref h1, .ref h2, .ref h3, .int 0, .int 0, .int 0])), (h1, .inl (cI, 360, .inl (fun _ => 0)))] sz) [(h0, .inr (1, [.ref h1, .ref h2, .ref h3, .int 1, .int 0, .int 0])), (h1, .inl (cI, 360, .inl (upd (fun _ => 0) (0 : Int32).toNatClampNeg (-14))))]) (va_A [(h0, .inr (1, [.ref h1, .ref h2, .ref h3, .int 0, .int 0, .int 0])), (h1, .inl (cI, 360, .inl (fun _ => 0)))] sz)) 0 0 (va_A [(h0, .inr (1, [.ref h1, .ref h2, .ref h3, .int 0, .int 0, .int 0])), (h1, .inl (cI, 360, .inl (fun _ => 0)))] sz) := by
  refine Met.ofW (cc := cX1_put) (maxL := 2) (ret := none) (by decide) rfl ?_
  intro p e s m args below meth c s₁ B hml hv
  obtain ⟨rfl, hsz, hP, hK, hD0⟩ := hv
  have hx := B.exec
  have hb := B.bytes
  have hr := B.returns
  have hts := atoms_spec (ws := v_X1_put) B.pre
  have hown : s.vm.findClass RX1 = some m.cls := findClass_of_methodNamed B.named
  have hlocks := B.notSynchronized
  have hinX1 : ∀ w ∈ wsX10, w ∈ v_X1_put := fun _ h => List.mem_cons_of_mem _ (List.mem_append_right _ (List.mem_append_left _ h))
  subst hsz
  have hD := hD0.self (sz := s.heap.size)
  generalize hAe : va_A [(h0, .inr (1, [.ref h1, .ref h2, .ref h3, .int 0, .int 0, .int 0])), (h1, .inl (cI, 360, .inl (fun _ => 0)))] s.heap.size = A at hD ⊢
  have hA : ∀ q : Nat, s.heap.size ≤ q → A q := fun q h => by rw [← hAe]; exact Or.inr h
  have hP : va_P (dC, dI) vwCl [(h0, .inr (1, [.ref h1, .ref h2, .ref h3, .int 0, .int 0, .int 0])), (h1, .inl (cI, 360, .inl (fun _ => 0)))] s.heap := hP
  have hl := lv_entry ([.ref h0, .int (-14)]) (n := 2) (Nat.le_of_ble_eq_true rfl)
  rw [lg_entry_eq]
  generalize (lg_sl ([.ref h0, .int (-14)]) ++ List.replicate (2 - (lg_sl ([.ref h0, .int (-14)])).length) Slot.unset).toArray = ls at hl ⊢
  have hl : lv_has ls 2 [(0, .ref h0), (1, .int (-14))] := hl
  refine W_gen (A := A) hP (fun H locs hP hS => ?_)
  refine lv_aload_n hx hb dX1_put_0 rfl (lv_at hl 0 rfl) ?_
  refine va_get (D := (dC, dI)) (ci := 1) (v := .int 0) (C := RX1) (T := TX1) (N := 6) hx hb hts hinX1 hown hK hP 0 rfl rfl 3 (by decide) (hts (.fieldLink RX1 21 "MayRings$Law" "length" "I") (List.mem_of_getElem? (i := 1) rfl)) (fun _ h9 => h9) rfl dX1_put_1 ?_
  refine lv_sipush (v := 360) hx hb dX1_put_4 (by decide) ?_
  refine lv_icmp_ge (tgt := 30) hx hb dX1_put_7 (by decide) (fun cz => absurd cz (by decide)) (fun _ => ?_)
  refine lv_aload_n hx hb dX1_put_10 rfl (lv_at hl 0 rfl) ?_
  refine va_get (D := (dC, dI)) (ci := 1) (v := .ref h1) (C := RX1) (T := TX1) (N := 6) hx hb hts hinX1 hown hK hP 0 rfl rfl 0 (by decide) (hts (.fieldLink RX1 11 "MayRings$Law" "codes" "[I") (List.mem_of_getElem? (i := 2) rfl)) (fun _ h9 => h9) rfl dX1_put_11 ?_
  refine lv_aload_n hx hb dX1_put_14 rfl (lv_at hl 0 rfl) ?_
  refine va_get (D := (dC, dI)) (ci := 1) (v := .int 0) (C := RX1) (T := TX1) (N := 6) hx hb hts hinX1 hown hK hP 0 rfl rfl 3 (by decide) (hts (.fieldLink RX1 21 "MayRings$Law" "length" "I") (List.mem_of_getElem? (i := 1) rfl)) (fun _ h9 => h9) rfl dX1_put_15 ?_
  refine lv_iload_n hx hb dX1_put_18 rfl (lv_at hl 1 rfl) ?_
  refine va_iast hx hb hK hP hD hS 1 1 rfl rfl (show ¬ (_ ∨ _) by decide) dX1_put_19 (fun H locs hP hD hS => ?_)
  have hP : va_P (dC, dI) vwCl [(h0, .inr (1, [.ref h1, .ref h2, .ref h3, .int 0, .int 0, .int 0])), (h1, .inl (cI, 360, .inl (upd (fun _ => 0) (0 : Int32).toNatClampNeg (-14))))] H := hP
  have hD : va_D A [(h0, .inr (1, [.ref h1, .ref h2, .ref h3, .int 0, .int 0, .int 0])), (h1, .inl (cI, 360, .inl (upd (fun _ => 0) (0 : Int32).toNatClampNeg (-14))))] := hD
  refine lv_aload_n hx hb dX1_put_20 rfl (lv_at hl 0 rfl) ?_
  refine lv_dup hx hb dX1_put_21 rfl ?_
  refine va_get (D := (dC, dI)) (ci := 1) (v := .int 0) (C := RX1) (T := TX1) (N := 6) hx hb hts hinX1 hown hK hP 0 rfl rfl 3 (by decide) (hts (.fieldLink RX1 21 "MayRings$Law" "length" "I") (List.mem_of_getElem? (i := 1) rfl)) (fun _ h9 => h9) rfl dX1_put_22 ?_
  refine lv_iconst (v := 1) hx hb dX1_put_25 (by decide) ?_
  refine lv_iadd hx hb dX1_put_26 ?_
  refine tp_v (.int 1) (congrArg Value.int (by decide)) ?_
  refine va_put (D := (dC, dI)) (ci := 1) (v := .int 1) (ty := .int) (C := RX1) (T := TX1) (N := 6) hx hb hts hinX1 tyX1 tyX1_ok nmX1 hown hK hP hD hS 0 rfl rfl 3 (by decide) (hts (.fieldLink RX1 21 "MayRings$Law" "length" "I") (List.mem_of_getElem? (i := 1) rfl)) (fun _ h9 => h9) rfl (by decide +kernel) rfl rfl (Nat.le_of_ble_eq_true rfl) dX1_put_27 (fun H locs hP hD hS => ?_)
  have hP : va_P (dC, dI) vwCl [(h0, .inr (1, [.ref h1, .ref h2, .ref h3, .int 1, .int 0, .int 0])), (h1, .inl (cI, 360, .inl (upd (fun _ => 0) (0 : Int32).toNatClampNeg (-14))))] H := hP
  have hD : va_D A [(h0, .inr (1, [.ref h1, .ref h2, .ref h3, .int 1, .int 0, .int 0])), (h1, .inl (cI, 360, .inl (upd (fun _ => 0) (0 : Int32).toNatClampNeg (-14))))] := hD
  have hP9 := hP.sub (ws' := [(h0, .inr (1, [.ref h1, .ref h2, .ref h3, .int 1, .int 0, .int 0])), (h1, .inl (cI, 360, .inl (upd (fun _ => 0) (0 : Int32).toNatClampNeg (-14))))]) [0, 1] rfl
  have hD9 := hD.sub (ws' := [(h0, .inr (1, [.ref h1, .ref h2, .ref h3, .int 1, .int 0, .int 0])), (h1, .inl (cI, 360, .inl (upd (fun _ => 0) (0 : Int32).toNatClampNeg (-14))))]) [0, 1] (by decide) rfl
  exact W.vret hx hb hr (fun t ht hW => ⟨⟨(), rfl, trivial, ⟨by rw [ht]; exact hP9, hD9⟩⟩, hS.F ht⟩) hS.2.2 dX1_put_30
def v_X1_put_2 : List Cond := Cond.code yX1_put cX1_put 2 none :: ([Cond.fieldLink RX1 21 "MayRings$Law" "length" "I", Cond.fieldLink RX1 11 "MayRings$Law" "codes" "[I"] ++ (wsX10 ++ ([])))
theorem k_X1_put_2 : GoodIn lw_tbl v_X1_put_2 := gd_c (List.mem_of_getElem? (i := 182) (by decide +kernel)) rfl (goodIn_app (gd_c (List.mem_of_getElem? (i := 186) (by decide +kernel)) rfl (gd_c (List.mem_of_getElem? (i := 183) (by decide +kernel)) rfl (gd_nil))) (goodIn_app kfX1 (gd_nil)))
set_option maxHeartbeats 600000 in
set_option maxRecDepth 100000 in
theorem c_X1_put_2 (l : Launch) (dC : Nat → ClassId) (dI : Nat → Nat → Nat) (cB cI cJ cZ cP : ClassId) (h0 : Nat) (h1 : Nat) (h2 : Nat) (h3 : Nat) (sz : Nat) : Met l yX1_put v_X1_put_2 ({ frames := 0, cells := 0, slots := 0, locals := 0 }) (va_Pc [.ref h0, .int 99] (fun U => U.heap.size = sz ∧ va_P (dC, dI) vwCl [(h0, .inr (1, [.ref h1, .ref h2, .ref h3, .int 1, .int 0, .int 0])), (h1, .inl (cI, 360, .inl (upd (fun _ => 0) (0 : Int32).toNatClampNeg (-14))))] U.heap ∧ va_K (dC, dI) vwCl (ty5 cB cI cJ cZ cP) U ∧ va_D (fun _ => True) [(h0, .inr (1, [.ref h1, .ref h2, .ref h3, .int 1, .int 0, .int 0])), (h1, .inl (cI, 360, .inl (upd (fun _ => 0) (0 : Int32).toNatClampNeg (-14))))])) (va_Qv (fun _ : Unit => True) (fun _ t => va_P (dC, dI) vwCl [(h0, .inr (1, [.ref h1, .ref h2, .ref h3, .int 2, .int 0, .int 0])), (h1, .inl (cI, 360, .inl (upd (upd (fun _ => 0) (0 : Int32).toNatClampNeg (-14)) (1 : Int32).toNatClampNeg 99)))] t.heap ∧ va_D (va_A [(h0, .inr (1, [.ref h1, .ref h2, .ref h3, .int 1, .int 0, .int 0])), (h1, .inl (cI, 360, .inl (upd (fun _ => 0) (0 : Int32).toNatClampNeg (-14))))] sz) [(h0, .inr (1, [.ref h1, .ref h2, .ref h3, .int 2, .int 0, .int 0])), (h1, .inl (cI, 360, .inl (upd (upd (fun _ => 0) (0 : Int32).toNatClampNeg (-14)) (1 : Int32).toNatClampNeg 99)))]) (va_A [(h0, .inr (1, [.ref h1, .ref h2, .ref h3, .int 1, .int 0, .int 0])), (h1, .inl (cI, 360, .inl (upd (fun _ => 0) (0 : Int32).toNatClampNeg (-14))))] sz)) 0 0 (va_A [(h0, .inr (1, [.ref h1, .ref h2, .ref h3, .int 1, .int 0, .int 0])), (h1, .inl (cI, 360, .inl (upd (fun _ => 0) (0 : Int32).toNatClampNeg (-14))))] sz) := by
  refine Met.ofW (cc := cX1_put) (maxL := 2) (ret := none) (by decide) rfl ?_
  intro p e s m args below meth c s₁ B hml hv
  obtain ⟨rfl, hsz, hP, hK, hD0⟩ := hv
  have hx := B.exec
  have hb := B.bytes
  have hr := B.returns
  have hts := atoms_spec (ws := v_X1_put_2) B.pre
  have hown : s.vm.findClass RX1 = some m.cls := findClass_of_methodNamed B.named
  have hlocks := B.notSynchronized
  have hinX1 : ∀ w ∈ wsX10, w ∈ v_X1_put_2 := fun _ h => List.mem_cons_of_mem _ (List.mem_append_right _ (List.mem_append_left _ h))
  subst hsz
  have hD := hD0.self (sz := s.heap.size)
  generalize hAe : va_A [(h0, .inr (1, [.ref h1, .ref h2, .ref h3, .int 1, .int 0, .int 0])), (h1, .inl (cI, 360, .inl (upd (fun _ => 0) (0 : Int32).toNatClampNeg (-14))))] s.heap.size = A at hD ⊢
  have hA : ∀ q : Nat, s.heap.size ≤ q → A q := fun q h => by rw [← hAe]; exact Or.inr h
  have hP : va_P (dC, dI) vwCl [(h0, .inr (1, [.ref h1, .ref h2, .ref h3, .int 1, .int 0, .int 0])), (h1, .inl (cI, 360, .inl (upd (fun _ => 0) (0 : Int32).toNatClampNeg (-14))))] s.heap := hP
  have hl := lv_entry ([.ref h0, .int 99]) (n := 2) (Nat.le_of_ble_eq_true rfl)
  rw [lg_entry_eq]
  generalize (lg_sl ([.ref h0, .int 99]) ++ List.replicate (2 - (lg_sl ([.ref h0, .int 99])).length) Slot.unset).toArray = ls at hl ⊢
  have hl : lv_has ls 2 [(0, .ref h0), (1, .int 99)] := hl
  refine W_gen (A := A) hP (fun H locs hP hS => ?_)
  refine lv_aload_n hx hb dX1_put_0 rfl (lv_at hl 0 rfl) ?_
  refine va_get (D := (dC, dI)) (ci := 1) (v := .int 1) (C := RX1) (T := TX1) (N := 6) hx hb hts hinX1 hown hK hP 0 rfl rfl 3 (by decide) (hts (.fieldLink RX1 21 "MayRings$Law" "length" "I") (List.mem_of_getElem? (i := 1) rfl)) (fun _ h9 => h9) rfl dX1_put_1 ?_
  refine lv_sipush (v := 360) hx hb dX1_put_4 (by decide) ?_
  refine lv_icmp_ge (tgt := 30) hx hb dX1_put_7 (by decide) (fun cz => absurd cz (by decide)) (fun _ => ?_)
  refine lv_aload_n hx hb dX1_put_10 rfl (lv_at hl 0 rfl) ?_
  refine va_get (D := (dC, dI)) (ci := 1) (v := .ref h1) (C := RX1) (T := TX1) (N := 6) hx hb hts hinX1 hown hK hP 0 rfl rfl 0 (by decide) (hts (.fieldLink RX1 11 "MayRings$Law" "codes" "[I") (List.mem_of_getElem? (i := 2) rfl)) (fun _ h9 => h9) rfl dX1_put_11 ?_
  refine lv_aload_n hx hb dX1_put_14 rfl (lv_at hl 0 rfl) ?_
  refine va_get (D := (dC, dI)) (ci := 1) (v := .int 1) (C := RX1) (T := TX1) (N := 6) hx hb hts hinX1 hown hK hP 0 rfl rfl 3 (by decide) (hts (.fieldLink RX1 21 "MayRings$Law" "length" "I") (List.mem_of_getElem? (i := 1) rfl)) (fun _ h9 => h9) rfl dX1_put_15 ?_
  refine lv_iload_n hx hb dX1_put_18 rfl (lv_at hl 1 rfl) ?_
  refine va_iast hx hb hK hP hD hS 1 1 rfl rfl (show ¬ (_ ∨ _) by decide) dX1_put_19 (fun H locs hP hD hS => ?_)
  have hP : va_P (dC, dI) vwCl [(h0, .inr (1, [.ref h1, .ref h2, .ref h3, .int 1, .int 0, .int 0])), (h1, .inl (cI, 360, .inl (upd (upd (fun _ => 0) (0 : Int32).toNatClampNeg (-14)) (1 : Int32).toNatClampNeg 99)))] H := hP
  have hD : va_D A [(h0, .inr (1, [.ref h1, .ref h2, .ref h3, .int 1, .int 0, .int 0])), (h1, .inl (cI, 360, .inl (upd (upd (fun _ => 0) (0 : Int32).toNatClampNeg (-14)) (1 : Int32).toNatClampNeg 99)))] := hD
  refine lv_aload_n hx hb dX1_put_20 rfl (lv_at hl 0 rfl) ?_
  refine lv_dup hx hb dX1_put_21 rfl ?_
  refine va_get (D := (dC, dI)) (ci := 1) (v := .int 1) (C := RX1) (T := TX1) (N := 6) hx hb hts hinX1 hown hK hP 0 rfl rfl 3 (by decide) (hts (.fieldLink RX1 21 "MayRings$Law" "length" "I") (List.mem_of_getElem? (i := 1) rfl)) (fun _ h9 => h9) rfl dX1_put_22 ?_
  refine lv_iconst (v := 1) hx hb dX1_put_25 (by decide) ?_
  refine lv_iadd hx hb dX1_put_26 ?_
  refine tp_v (.int 2) (congrArg Value.int (by decide)) ?_
  refine va_put (D := (dC, dI)) (ci := 1) (v := .int 2) (ty := .int) (C := RX1) (T := TX1) (N := 6) hx hb hts hinX1 tyX1 tyX1_ok nmX1 hown hK hP hD hS 0 rfl rfl 3 (by decide) (hts (.fieldLink RX1 21 "MayRings$Law" "length" "I") (List.mem_of_getElem? (i := 1) rfl)) (fun _ h9 => h9) rfl (by decide +kernel) rfl rfl (Nat.le_of_ble_eq_true rfl) dX1_put_27 (fun H locs hP hD hS => ?_)
  have hP : va_P (dC, dI) vwCl [(h0, .inr (1, [.ref h1, .ref h2, .ref h3, .int 2, .int 0, .int 0])), (h1, .inl (cI, 360, .inl (upd (upd (fun _ => 0) (0 : Int32).toNatClampNeg (-14)) (1 : Int32).toNatClampNeg 99)))] H := hP
  have hD : va_D A [(h0, .inr (1, [.ref h1, .ref h2, .ref h3, .int 2, .int 0, .int 0])), (h1, .inl (cI, 360, .inl (upd (upd (fun _ => 0) (0 : Int32).toNatClampNeg (-14)) (1 : Int32).toNatClampNeg 99)))] := hD
  have hP9 := hP.sub (ws' := [(h0, .inr (1, [.ref h1, .ref h2, .ref h3, .int 2, .int 0, .int 0])), (h1, .inl (cI, 360, .inl (upd (upd (fun _ => 0) (0 : Int32).toNatClampNeg (-14)) (1 : Int32).toNatClampNeg 99)))]) [0, 1] rfl
  have hD9 := hD.sub (ws' := [(h0, .inr (1, [.ref h1, .ref h2, .ref h3, .int 2, .int 0, .int 0])), (h1, .inl (cI, 360, .inl (upd (upd (fun _ => 0) (0 : Int32).toNatClampNeg (-14)) (1 : Int32).toNatClampNeg 99)))]) [0, 1] (by decide) rfl
  exact W.vret hx hb hr (fun t ht hW => ⟨⟨(), rfl, trivial, ⟨by rw [ht]; exact hP9, hD9⟩⟩, hS.F ht⟩) hS.2.2 dX1_put_30
def v_X1_put_3 : List Cond := Cond.code yX1_put cX1_put 2 none :: ([Cond.fieldLink RX1 21 "MayRings$Law" "length" "I", Cond.fieldLink RX1 11 "MayRings$Law" "codes" "[I"] ++ (wsX10 ++ ([])))
theorem k_X1_put_3 : GoodIn lw_tbl v_X1_put_3 := gd_c (List.mem_of_getElem? (i := 182) (by decide +kernel)) rfl (goodIn_app (gd_c (List.mem_of_getElem? (i := 186) (by decide +kernel)) rfl (gd_c (List.mem_of_getElem? (i := 183) (by decide +kernel)) rfl (gd_nil))) (goodIn_app kfX1 (gd_nil)))
set_option maxHeartbeats 600000 in
set_option maxRecDepth 100000 in
theorem c_X1_put_3 (l : Launch) (dC : Nat → ClassId) (dI : Nat → Nat → Nat) (cB cI cJ cZ cP : ClassId) (h0 : Nat) (h1 : Nat) (h2 : Nat) (h3 : Nat) (sz : Nat) : Met l yX1_put v_X1_put_3 ({ frames := 0, cells := 0, slots := 0, locals := 0 }) (va_Pc [.ref h0, .int (-23)] (fun U => U.heap.size = sz ∧ va_P (dC, dI) vwCl [(h0, .inr (1, [.ref h1, .ref h2, .ref h3, .int 2, .int 0, .int 0])), (h1, .inl (cI, 360, .inl (upd (upd (fun _ => 0) (0 : Int32).toNatClampNeg (-14)) (1 : Int32).toNatClampNeg 99)))] U.heap ∧ va_K (dC, dI) vwCl (ty5 cB cI cJ cZ cP) U ∧ va_D (fun _ => True) [(h0, .inr (1, [.ref h1, .ref h2, .ref h3, .int 2, .int 0, .int 0])), (h1, .inl (cI, 360, .inl (upd (upd (fun _ => 0) (0 : Int32).toNatClampNeg (-14)) (1 : Int32).toNatClampNeg 99)))])) (va_Qv (fun _ : Unit => True) (fun _ t => va_P (dC, dI) vwCl [(h0, .inr (1, [.ref h1, .ref h2, .ref h3, .int 3, .int 0, .int 0])), (h1, .inl (cI, 360, .inl (upd (upd (upd (fun _ => 0) (0 : Int32).toNatClampNeg (-14)) (1 : Int32).toNatClampNeg 99) (2 : Int32).toNatClampNeg (-23))))] t.heap ∧ va_D (va_A [(h0, .inr (1, [.ref h1, .ref h2, .ref h3, .int 2, .int 0, .int 0])), (h1, .inl (cI, 360, .inl (upd (upd (fun _ => 0) (0 : Int32).toNatClampNeg (-14)) (1 : Int32).toNatClampNeg 99)))] sz) [(h0, .inr (1, [.ref h1, .ref h2, .ref h3, .int 3, .int 0, .int 0])), (h1, .inl (cI, 360, .inl (upd (upd (upd (fun _ => 0) (0 : Int32).toNatClampNeg (-14)) (1 : Int32).toNatClampNeg 99) (2 : Int32).toNatClampNeg (-23))))]) (va_A [(h0, .inr (1, [.ref h1, .ref h2, .ref h3, .int 2, .int 0, .int 0])), (h1, .inl (cI, 360, .inl (upd (upd (fun _ => 0) (0 : Int32).toNatClampNeg (-14)) (1 : Int32).toNatClampNeg 99)))] sz)) 0 0 (va_A [(h0, .inr (1, [.ref h1, .ref h2, .ref h3, .int 2, .int 0, .int 0])), (h1, .inl (cI, 360, .inl (upd (upd (fun _ => 0) (0 : Int32).toNatClampNeg (-14)) (1 : Int32).toNatClampNeg 99)))] sz) := by
  refine Met.ofW (cc := cX1_put) (maxL := 2) (ret := none) (by decide) rfl ?_
  intro p e s m args below meth c s₁ B hml hv
  obtain ⟨rfl, hsz, hP, hK, hD0⟩ := hv
  have hx := B.exec
  have hb := B.bytes
  have hr := B.returns
  have hts := atoms_spec (ws := v_X1_put_3) B.pre
  have hown : s.vm.findClass RX1 = some m.cls := findClass_of_methodNamed B.named
  have hlocks := B.notSynchronized
  have hinX1 : ∀ w ∈ wsX10, w ∈ v_X1_put_3 := fun _ h => List.mem_cons_of_mem _ (List.mem_append_right _ (List.mem_append_left _ h))
  subst hsz
  have hD := hD0.self (sz := s.heap.size)
  generalize hAe : va_A [(h0, .inr (1, [.ref h1, .ref h2, .ref h3, .int 2, .int 0, .int 0])), (h1, .inl (cI, 360, .inl (upd (upd (fun _ => 0) (0 : Int32).toNatClampNeg (-14)) (1 : Int32).toNatClampNeg 99)))] s.heap.size = A at hD ⊢
  have hA : ∀ q : Nat, s.heap.size ≤ q → A q := fun q h => by rw [← hAe]; exact Or.inr h
  have hP : va_P (dC, dI) vwCl [(h0, .inr (1, [.ref h1, .ref h2, .ref h3, .int 2, .int 0, .int 0])), (h1, .inl (cI, 360, .inl (upd (upd (fun _ => 0) (0 : Int32).toNatClampNeg (-14)) (1 : Int32).toNatClampNeg 99)))] s.heap := hP
  have hl := lv_entry ([.ref h0, .int (-23)]) (n := 2) (Nat.le_of_ble_eq_true rfl)
  rw [lg_entry_eq]
  generalize (lg_sl ([.ref h0, .int (-23)]) ++ List.replicate (2 - (lg_sl ([.ref h0, .int (-23)])).length) Slot.unset).toArray = ls at hl ⊢
  have hl : lv_has ls 2 [(0, .ref h0), (1, .int (-23))] := hl
  refine W_gen (A := A) hP (fun H locs hP hS => ?_)
  refine lv_aload_n hx hb dX1_put_0 rfl (lv_at hl 0 rfl) ?_
  refine va_get (D := (dC, dI)) (ci := 1) (v := .int 2) (C := RX1) (T := TX1) (N := 6) hx hb hts hinX1 hown hK hP 0 rfl rfl 3 (by decide) (hts (.fieldLink RX1 21 "MayRings$Law" "length" "I") (List.mem_of_getElem? (i := 1) rfl)) (fun _ h9 => h9) rfl dX1_put_1 ?_
  refine lv_sipush (v := 360) hx hb dX1_put_4 (by decide) ?_
  refine lv_icmp_ge (tgt := 30) hx hb dX1_put_7 (by decide) (fun cz => absurd cz (by decide)) (fun _ => ?_)
  refine lv_aload_n hx hb dX1_put_10 rfl (lv_at hl 0 rfl) ?_
  refine va_get (D := (dC, dI)) (ci := 1) (v := .ref h1) (C := RX1) (T := TX1) (N := 6) hx hb hts hinX1 hown hK hP 0 rfl rfl 0 (by decide) (hts (.fieldLink RX1 11 "MayRings$Law" "codes" "[I") (List.mem_of_getElem? (i := 2) rfl)) (fun _ h9 => h9) rfl dX1_put_11 ?_
  refine lv_aload_n hx hb dX1_put_14 rfl (lv_at hl 0 rfl) ?_
  refine va_get (D := (dC, dI)) (ci := 1) (v := .int 2) (C := RX1) (T := TX1) (N := 6) hx hb hts hinX1 hown hK hP 0 rfl rfl 3 (by decide) (hts (.fieldLink RX1 21 "MayRings$Law" "length" "I") (List.mem_of_getElem? (i := 1) rfl)) (fun _ h9 => h9) rfl dX1_put_15 ?_
  refine lv_iload_n hx hb dX1_put_18 rfl (lv_at hl 1 rfl) ?_
  refine va_iast hx hb hK hP hD hS 1 1 rfl rfl (show ¬ (_ ∨ _) by decide) dX1_put_19 (fun H locs hP hD hS => ?_)
  have hP : va_P (dC, dI) vwCl [(h0, .inr (1, [.ref h1, .ref h2, .ref h3, .int 2, .int 0, .int 0])), (h1, .inl (cI, 360, .inl (upd (upd (upd (fun _ => 0) (0 : Int32).toNatClampNeg (-14)) (1 : Int32).toNatClampNeg 99) (2 : Int32).toNatClampNeg (-23))))] H := hP
  have hD : va_D A [(h0, .inr (1, [.ref h1, .ref h2, .ref h3, .int 2, .int 0, .int 0])), (h1, .inl (cI, 360, .inl (upd (upd (upd (fun _ => 0) (0 : Int32).toNatClampNeg (-14)) (1 : Int32).toNatClampNeg 99) (2 : Int32).toNatClampNeg (-23))))] := hD
  refine lv_aload_n hx hb dX1_put_20 rfl (lv_at hl 0 rfl) ?_
  refine lv_dup hx hb dX1_put_21 rfl ?_
  refine va_get (D := (dC, dI)) (ci := 1) (v := .int 2) (C := RX1) (T := TX1) (N := 6) hx hb hts hinX1 hown hK hP 0 rfl rfl 3 (by decide) (hts (.fieldLink RX1 21 "MayRings$Law" "length" "I") (List.mem_of_getElem? (i := 1) rfl)) (fun _ h9 => h9) rfl dX1_put_22 ?_
  refine lv_iconst (v := 1) hx hb dX1_put_25 (by decide) ?_
  refine lv_iadd hx hb dX1_put_26 ?_
  refine tp_v (.int 3) (congrArg Value.int (by decide)) ?_
  refine va_put (D := (dC, dI)) (ci := 1) (v := .int 3) (ty := .int) (C := RX1) (T := TX1) (N := 6) hx hb hts hinX1 tyX1 tyX1_ok nmX1 hown hK hP hD hS 0 rfl rfl 3 (by decide) (hts (.fieldLink RX1 21 "MayRings$Law" "length" "I") (List.mem_of_getElem? (i := 1) rfl)) (fun _ h9 => h9) rfl (by decide +kernel) rfl rfl (Nat.le_of_ble_eq_true rfl) dX1_put_27 (fun H locs hP hD hS => ?_)
  have hP : va_P (dC, dI) vwCl [(h0, .inr (1, [.ref h1, .ref h2, .ref h3, .int 3, .int 0, .int 0])), (h1, .inl (cI, 360, .inl (upd (upd (upd (fun _ => 0) (0 : Int32).toNatClampNeg (-14)) (1 : Int32).toNatClampNeg 99) (2 : Int32).toNatClampNeg (-23))))] H := hP
  have hD : va_D A [(h0, .inr (1, [.ref h1, .ref h2, .ref h3, .int 3, .int 0, .int 0])), (h1, .inl (cI, 360, .inl (upd (upd (upd (fun _ => 0) (0 : Int32).toNatClampNeg (-14)) (1 : Int32).toNatClampNeg 99) (2 : Int32).toNatClampNeg (-23))))] := hD
  have hP9 := hP.sub (ws' := [(h0, .inr (1, [.ref h1, .ref h2, .ref h3, .int 3, .int 0, .int 0])), (h1, .inl (cI, 360, .inl (upd (upd (upd (fun _ => 0) (0 : Int32).toNatClampNeg (-14)) (1 : Int32).toNatClampNeg 99) (2 : Int32).toNatClampNeg (-23))))]) [0, 1] rfl
  have hD9 := hD.sub (ws' := [(h0, .inr (1, [.ref h1, .ref h2, .ref h3, .int 3, .int 0, .int 0])), (h1, .inl (cI, 360, .inl (upd (upd (upd (fun _ => 0) (0 : Int32).toNatClampNeg (-14)) (1 : Int32).toNatClampNeg 99) (2 : Int32).toNatClampNeg (-23))))]) [0, 1] (by decide) rfl
  exact W.vret hx hb hr (fun t ht hW => ⟨⟨(), rfl, trivial, ⟨by rw [ht]; exact hP9, hD9⟩⟩, hS.F ht⟩) hS.2.2 dX1_put_30
def v_X1_putSinceNever : List Cond := Cond.code yX1_putSinceNever cX1_putSinceNever 1 none :: ([Cond.methodLink RX1 34 yX1_put, Cond.instanceMethod yX1_put, Cond.selects RX1 yX1_put yX1_put, Cond.initialized RX1] ++ (v_X1_put ++ (v_X1_put_2 ++ (v_X1_put_3 ++ ([])))))
theorem k_X1_putSinceNever : GoodIn lw_tbl v_X1_putSinceNever := gd_c (List.mem_of_getElem? (i := 178) (by decide +kernel)) rfl (goodIn_app (gd_c (List.mem_of_getElem? (i := 179) (by decide +kernel)) rfl (gd_c (List.mem_of_getElem? (i := 180) (by decide +kernel)) rfl (gd_c (List.mem_of_getElem? (i := 181) (by decide +kernel)) rfl (gd_c (List.mem_of_getElem? (i := 133) (by decide +kernel)) rfl (gd_nil))))) (goodIn_app k_X1_put (goodIn_app k_X1_put_2 (goodIn_app k_X1_put_3 (gd_nil)))))
set_option maxHeartbeats 600000 in
set_option maxRecDepth 100000 in
theorem c_X1_putSinceNever (l : Launch) (dC : Nat → ClassId) (dI : Nat → Nat → Nat) (cB cI cJ cZ cP : ClassId) (h0 : Nat) (h1 : Nat) (h2 : Nat) (h3 : Nat) (sz : Nat) : Met l yX1_putSinceNever v_X1_putSinceNever ({ frames := 1, cells := 0, slots := 0, locals := 21 }) (va_Pc [.ref h0] (fun U => U.heap.size = sz ∧ va_P (dC, dI) vwCl [(h0, .inr (1, [.ref h1, .ref h2, .ref h3, .int 0, .int 0, .int 0])), (h1, .inl (cI, 360, .inl (fun _ => 0)))] U.heap ∧ va_K (dC, dI) vwCl (ty5 cB cI cJ cZ cP) U ∧ va_D (fun _ => True) [(h0, .inr (1, [.ref h1, .ref h2, .ref h3, .int 0, .int 0, .int 0])), (h1, .inl (cI, 360, .inl (fun _ => 0)))])) (va_Qv (fun _ : Unit => True) (fun _ t => va_P (dC, dI) vwCl [(h0, .inr (1, [.ref h1, .ref h2, .ref h3, .int 3, .int 0, .int 0])), (h1, .inl (cI, 360, .inl (upd (upd (upd (fun _ => 0) (0 : Int32).toNatClampNeg (-14)) (1 : Int32).toNatClampNeg 99) (2 : Int32).toNatClampNeg (-23))))] t.heap ∧ va_D (va_A [(h0, .inr (1, [.ref h1, .ref h2, .ref h3, .int 0, .int 0, .int 0])), (h1, .inl (cI, 360, .inl (fun _ => 0)))] sz) [(h0, .inr (1, [.ref h1, .ref h2, .ref h3, .int 3, .int 0, .int 0])), (h1, .inl (cI, 360, .inl (upd (upd (upd (fun _ => 0) (0 : Int32).toNatClampNeg (-14)) (1 : Int32).toNatClampNeg 99) (2 : Int32).toNatClampNeg (-23))))]) (va_A [(h0, .inr (1, [.ref h1, .ref h2, .ref h3, .int 0, .int 0, .int 0])), (h1, .inl (cI, 360, .inl (fun _ => 0)))] sz)) 0 0 (va_A [(h0, .inr (1, [.ref h1, .ref h2, .ref h3, .int 0, .int 0, .int 0])), (h1, .inl (cI, 360, .inl (fun _ => 0)))] sz) := by
  refine Met.ofW (cc := cX1_putSinceNever) (maxL := 1) (ret := none) (by decide) rfl ?_
  intro p e s m args below meth c s₁ B hml hv
  obtain ⟨rfl, hsz, hP, hK, hD0⟩ := hv
  have hx := B.exec
  have hb := B.bytes
  have hr := B.returns
  have hts := atoms_spec (ws := v_X1_putSinceNever) B.pre
  have hown : s.vm.findClass RX1 = some m.cls := findClass_of_methodNamed B.named
  have hlocks := B.notSynchronized
  subst hsz
  have hD := hD0.self (sz := s.heap.size)
  generalize hAe : va_A [(h0, .inr (1, [.ref h1, .ref h2, .ref h3, .int 0, .int 0, .int 0])), (h1, .inl (cI, 360, .inl (fun _ => 0)))] s.heap.size = A at hD ⊢
  have hA : ∀ q : Nat, s.heap.size ≤ q → A q := fun q h => by rw [← hAe]; exact Or.inr h
  have hP : va_P (dC, dI) vwCl [(h0, .inr (1, [.ref h1, .ref h2, .ref h3, .int 0, .int 0, .int 0])), (h1, .inl (cI, 360, .inl (fun _ => 0)))] s.heap := hP
  have hl := lv_entry ([.ref h0]) (n := 1) (Nat.le_of_ble_eq_true rfl)
  rw [lg_entry_eq]
  generalize (lg_sl ([.ref h0]) ++ List.replicate (1 - (lg_sl ([.ref h0])).length) Slot.unset).toArray = ls at hl ⊢
  have hl : lv_has ls 1 [(0, .ref h0)] := hl
  refine W_gen (A := A) hP (fun H locs hP hS => ?_)
  refine lv_aload_n hx hb dX1_putSinceNever_0 rfl (lv_at hl 0 rfl) ?_
  refine lv_bipush (v := (-14)) hx hb dX1_putSinceNever_1 (by decide) ?_
  have hPc := hP.sub (ws' := [(h0, .inr (1, [.ref h1, .ref h2, .ref h3, .int 0, .int 0, .int 0])), (h1, .inl (cI, 360, .inl (fun _ => 0)))]) [0, 1] rfl
  have hDc := hD.sub (ws' := [(h0, .inr (1, [.ref h1, .ref h2, .ref h3, .int 0, .int 0, .int 0])), (h1, .inl (cI, 360, .inl (fun _ => 0)))]) [0, 1] (by decide) rfl
  have hFc := va_free (wc := [(h0, .inr (1, [.ref h1, .ref h2, .ref h3, .int 0, .int 0, .int 0])), (h1, .inl (cI, 360, .inl (fun _ => 0)))]) hD hS hA [0, 1] rfl
  refine va_callv (va_runV (As := [.int (-14)]) (rest := []) ⟨hx, hb, hml, hown, hts⟩ (c_X1_put l dC dI cB cI cJ cZ cP h0 h1 h2 h3 H.size) (cwV 1 hts (gd_V (List.mem_of_getElem? (i := 1) rfl) (List.mem_of_getElem? (i := 2) rfl) (List.mem_of_getElem? (i := 3) rfl) (List.mem_of_getElem? (i := 4) rfl) (gd_mono k_X1_put (fun _ h => List.mem_cons_of_mem _ (List.mem_append_right _ (List.mem_append_left _ h))))) rfl rfl rfl (by decide +kernel) ⟨Nat.le_of_ble_eq_true rfl, Nat.le_of_ble_eq_true rfl⟩) ⟨fun a U g mk q => by obtain ⟨q0, q1, qP, qK, qD⟩ := q; exact ⟨q0, q1, qP, va_K.moved (u := U) (U := U.calling g mk a) (Vm.Alike.refl U.vm) qK, qD⟩, va_recv hK hPc (ci := 1) (q0 := 0) rfl rfl, fun U hU hW => ⟨rfl, by rw [hU], by rw [hU]; exact hPc, va_K.moved hW.alike hK, hDc.weaken (fun _ _ _ _ => trivial)⟩⟩ rfl rfl hl.1 rfl (lv_room (Nat.le_of_ble_eq_true rfl)) dX1_putSinceNever_3 ⟨Nat.le_of_ble_eq_true rfl, Nat.le_of_ble_eq_true rfl⟩) hS (fun q _ h => hFc q h) hFc (fun u t H1 locs ht hvm hw hB hz1 hk1 hS => ?_)
  obtain ⟨hP1, hD1⟩ := hB
  rw [ht] at hP1
  obtain ⟨hP, hD⟩ := va_join (wr := []) (w1 := [(h0, .inr (1, [.ref h1, .ref h2, .ref h3, .int 1, .int 0, .int 0])), (h1, .inl (cI, 360, .inl (upd (fun _ => 0) (0 : Int32).toNatClampNeg (-14))))]) hP hD [0, 1] [] rfl rfl (by decide) (by decide) hk1 hFc hP1 hD1
  generalize H1 = H at hP hS ⊢
  have hP : va_P (dC, dI) vwCl [(h0, .inr (1, [.ref h1, .ref h2, .ref h3, .int 1, .int 0, .int 0])), (h1, .inl (cI, 360, .inl (upd (fun _ => 0) (0 : Int32).toNatClampNeg (-14))))] H := hP
  have hD : va_D A [(h0, .inr (1, [.ref h1, .ref h2, .ref h3, .int 1, .int 0, .int 0])), (h1, .inl (cI, 360, .inl (upd (fun _ => 0) (0 : Int32).toNatClampNeg (-14))))] := hD
  refine lv_aload_n hx hb dX1_putSinceNever_6 rfl (lv_at hl 0 rfl) ?_
  refine lv_bipush (v := 99) hx hb dX1_putSinceNever_7 (by decide) ?_
  have hPc := hP.sub (ws' := [(h0, .inr (1, [.ref h1, .ref h2, .ref h3, .int 1, .int 0, .int 0])), (h1, .inl (cI, 360, .inl (upd (fun _ => 0) (0 : Int32).toNatClampNeg (-14))))]) [0, 1] rfl
  have hDc := hD.sub (ws' := [(h0, .inr (1, [.ref h1, .ref h2, .ref h3, .int 1, .int 0, .int 0])), (h1, .inl (cI, 360, .inl (upd (fun _ => 0) (0 : Int32).toNatClampNeg (-14))))]) [0, 1] (by decide) rfl
  have hFc := va_free (wc := [(h0, .inr (1, [.ref h1, .ref h2, .ref h3, .int 1, .int 0, .int 0])), (h1, .inl (cI, 360, .inl (upd (fun _ => 0) (0 : Int32).toNatClampNeg (-14))))]) hD hS hA [0, 1] rfl
  refine va_callv (va_runV (As := [.int 99]) (rest := []) ⟨hx, hb, hml, hown, hts⟩ (c_X1_put_2 l dC dI cB cI cJ cZ cP h0 h1 h2 h3 H.size) (cwV 1 hts (gd_V (List.mem_of_getElem? (i := 1) rfl) (List.mem_of_getElem? (i := 2) rfl) (List.mem_of_getElem? (i := 3) rfl) (List.mem_of_getElem? (i := 4) rfl) (gd_mono k_X1_put_2 (fun _ h => List.mem_cons_of_mem _ (List.mem_append_right _ (List.mem_append_right _ (List.mem_append_left _ h)))))) rfl rfl rfl (by decide +kernel) ⟨Nat.le_of_ble_eq_true rfl, Nat.le_of_ble_eq_true rfl⟩) ⟨fun a U g mk q => by obtain ⟨q0, q1, qP, qK, qD⟩ := q; exact ⟨q0, q1, qP, va_K.moved (u := U) (U := U.calling g mk a) (Vm.Alike.refl U.vm) qK, qD⟩, va_recv hK hPc (ci := 1) (q0 := 0) rfl rfl, fun U hU hW => ⟨rfl, by rw [hU], by rw [hU]; exact hPc, va_K.moved hW.alike hK, hDc.weaken (fun _ _ _ _ => trivial)⟩⟩ rfl rfl hl.1 rfl (lv_room (Nat.le_of_ble_eq_true rfl)) dX1_putSinceNever_9 ⟨Nat.le_of_ble_eq_true rfl, Nat.le_of_ble_eq_true rfl⟩) hS (fun q _ h => hFc q h) hFc (fun u t H1 locs ht hvm hw hB hz1 hk1 hS => ?_)
  obtain ⟨hP1, hD1⟩ := hB
  rw [ht] at hP1
  obtain ⟨hP, hD⟩ := va_join (wr := []) (w1 := [(h0, .inr (1, [.ref h1, .ref h2, .ref h3, .int 2, .int 0, .int 0])), (h1, .inl (cI, 360, .inl (upd (upd (fun _ => 0) (0 : Int32).toNatClampNeg (-14)) (1 : Int32).toNatClampNeg 99)))]) hP hD [0, 1] [] rfl rfl (by decide) (by decide) hk1 hFc hP1 hD1
  generalize H1 = H at hP hS ⊢
  have hP : va_P (dC, dI) vwCl [(h0, .inr (1, [.ref h1, .ref h2, .ref h3, .int 2, .int 0, .int 0])), (h1, .inl (cI, 360, .inl (upd (upd (fun _ => 0) (0 : Int32).toNatClampNeg (-14)) (1 : Int32).toNatClampNeg 99)))] H := hP
  have hD : va_D A [(h0, .inr (1, [.ref h1, .ref h2, .ref h3, .int 2, .int 0, .int 0])), (h1, .inl (cI, 360, .inl (upd (upd (fun _ => 0) (0 : Int32).toNatClampNeg (-14)) (1 : Int32).toNatClampNeg 99)))] := hD
  refine lv_aload_n hx hb dX1_putSinceNever_12 rfl (lv_at hl 0 rfl) ?_
  refine lv_bipush (v := (-23)) hx hb dX1_putSinceNever_13 (by decide) ?_
  have hPc := hP.sub (ws' := [(h0, .inr (1, [.ref h1, .ref h2, .ref h3, .int 2, .int 0, .int 0])), (h1, .inl (cI, 360, .inl (upd (upd (fun _ => 0) (0 : Int32).toNatClampNeg (-14)) (1 : Int32).toNatClampNeg 99)))]) [0, 1] rfl
  have hDc := hD.sub (ws' := [(h0, .inr (1, [.ref h1, .ref h2, .ref h3, .int 2, .int 0, .int 0])), (h1, .inl (cI, 360, .inl (upd (upd (fun _ => 0) (0 : Int32).toNatClampNeg (-14)) (1 : Int32).toNatClampNeg 99)))]) [0, 1] (by decide) rfl
  have hFc := va_free (wc := [(h0, .inr (1, [.ref h1, .ref h2, .ref h3, .int 2, .int 0, .int 0])), (h1, .inl (cI, 360, .inl (upd (upd (fun _ => 0) (0 : Int32).toNatClampNeg (-14)) (1 : Int32).toNatClampNeg 99)))]) hD hS hA [0, 1] rfl
  refine va_callv (va_runV (As := [.int (-23)]) (rest := []) ⟨hx, hb, hml, hown, hts⟩ (c_X1_put_3 l dC dI cB cI cJ cZ cP h0 h1 h2 h3 H.size) (cwV 1 hts (gd_V (List.mem_of_getElem? (i := 1) rfl) (List.mem_of_getElem? (i := 2) rfl) (List.mem_of_getElem? (i := 3) rfl) (List.mem_of_getElem? (i := 4) rfl) (gd_mono k_X1_put_3 (fun _ h => List.mem_cons_of_mem _ (List.mem_append_right _ (List.mem_append_right _ (List.mem_append_right _ (List.mem_append_left _ h))))))) rfl rfl rfl (by decide +kernel) ⟨Nat.le_of_ble_eq_true rfl, Nat.le_of_ble_eq_true rfl⟩) ⟨fun a U g mk q => by obtain ⟨q0, q1, qP, qK, qD⟩ := q; exact ⟨q0, q1, qP, va_K.moved (u := U) (U := U.calling g mk a) (Vm.Alike.refl U.vm) qK, qD⟩, va_recv hK hPc (ci := 1) (q0 := 0) rfl rfl, fun U hU hW => ⟨rfl, by rw [hU], by rw [hU]; exact hPc, va_K.moved hW.alike hK, hDc.weaken (fun _ _ _ _ => trivial)⟩⟩ rfl rfl hl.1 rfl (lv_room (Nat.le_of_ble_eq_true rfl)) dX1_putSinceNever_15 ⟨Nat.le_of_ble_eq_true rfl, Nat.le_of_ble_eq_true rfl⟩) hS (fun q _ h => hFc q h) hFc (fun u t H1 locs ht hvm hw hB hz1 hk1 hS => ?_)
  obtain ⟨hP1, hD1⟩ := hB
  rw [ht] at hP1
  obtain ⟨hP, hD⟩ := va_join (wr := []) (w1 := [(h0, .inr (1, [.ref h1, .ref h2, .ref h3, .int 3, .int 0, .int 0])), (h1, .inl (cI, 360, .inl (upd (upd (upd (fun _ => 0) (0 : Int32).toNatClampNeg (-14)) (1 : Int32).toNatClampNeg 99) (2 : Int32).toNatClampNeg (-23))))]) hP hD [0, 1] [] rfl rfl (by decide) (by decide) hk1 hFc hP1 hD1
  generalize H1 = H at hP hS ⊢
  have hP : va_P (dC, dI) vwCl [(h0, .inr (1, [.ref h1, .ref h2, .ref h3, .int 3, .int 0, .int 0])), (h1, .inl (cI, 360, .inl (upd (upd (upd (fun _ => 0) (0 : Int32).toNatClampNeg (-14)) (1 : Int32).toNatClampNeg 99) (2 : Int32).toNatClampNeg (-23))))] H := hP
  have hD : va_D A [(h0, .inr (1, [.ref h1, .ref h2, .ref h3, .int 3, .int 0, .int 0])), (h1, .inl (cI, 360, .inl (upd (upd (upd (fun _ => 0) (0 : Int32).toNatClampNeg (-14)) (1 : Int32).toNatClampNeg 99) (2 : Int32).toNatClampNeg (-23))))] := hD
  have hP9 := hP.sub (ws' := [(h0, .inr (1, [.ref h1, .ref h2, .ref h3, .int 3, .int 0, .int 0])), (h1, .inl (cI, 360, .inl (upd (upd (upd (fun _ => 0) (0 : Int32).toNatClampNeg (-14)) (1 : Int32).toNatClampNeg 99) (2 : Int32).toNatClampNeg (-23))))]) [0, 1] rfl
  have hD9 := hD.sub (ws' := [(h0, .inr (1, [.ref h1, .ref h2, .ref h3, .int 3, .int 0, .int 0])), (h1, .inl (cI, 360, .inl (upd (upd (upd (fun _ => 0) (0 : Int32).toNatClampNeg (-14)) (1 : Int32).toNatClampNeg 99) (2 : Int32).toNatClampNeg (-23))))]) [0, 1] (by decide) rfl
  exact W.vret hx hb hr (fun t ht hW => ⟨⟨(), rfl, trivial, ⟨by rw [ht]; exact hP9, hD9⟩⟩, hS.F ht⟩) hS.2.2 dX1_putSinceNever_18
def v_X1_init : List Cond := Cond.code yX1_init cX1_init 1 none :: ([Cond.methodLink RX1 5 objectInit, Cond.instanceMethod objectInit, Cond.code objectInit ⟨#[0xb1]⟩ 1 none, Cond.arrayClass .int, Cond.fieldLink RX1 11 "MayRings$Law" "codes" "[I", Cond.fieldLink RX1 15 "MayRings$Law" "stack" "[I", Cond.fieldLink RX1 18 "MayRings$Law" "facts" "[I", Cond.fieldLink RX1 21 "MayRings$Law" "length" "I", Cond.fieldLink RX1 25 "MayRings$Law" "top" "I", Cond.fieldLink RX1 28 "MayRings$Law" "units" "I", Cond.methodLink RX1 31 yX1_putSinceNever, Cond.instanceMethod yX1_putSinceNever, Cond.selects RX1 yX1_putSinceNever yX1_putSinceNever, Cond.initialized RX1] ++ (wsX10 ++ (v_X1_putSinceNever ++ ([]))))
theorem k_X1_init : GoodIn lw_tbl v_X1_init := gd_c (List.mem_of_getElem? (i := 173) (by decide +kernel)) rfl (goodIn_app (gd_c (List.mem_of_getElem? (i := 174) (by decide +kernel)) rfl (gd_c (List.mem_of_getElem? (i := 155) (by decide +kernel)) rfl (gd_c (List.mem_of_getElem? (i := 156) (by decide +kernel)) rfl (gd_c (List.mem_of_getElem? (i := 206) (by decide +kernel)) rfl (gd_c (List.mem_of_getElem? (i := 183) (by decide +kernel)) rfl (gd_c (List.mem_of_getElem? (i := 184) (by decide +kernel)) rfl (gd_c (List.mem_of_getElem? (i := 185) (by decide +kernel)) rfl (gd_c (List.mem_of_getElem? (i := 186) (by decide +kernel)) rfl (gd_c (List.mem_of_getElem? (i := 187) (by decide +kernel)) rfl (gd_c (List.mem_of_getElem? (i := 188) (by decide +kernel)) rfl (gd_c (List.mem_of_getElem? (i := 175) (by decide +kernel)) rfl (gd_c (List.mem_of_getElem? (i := 177) (by decide +kernel)) rfl (gd_c (List.mem_of_getElem? (i := 0) (by decide +kernel)) rfl (gd_c (List.mem_of_getElem? (i := 133) (by decide +kernel)) rfl (gd_nil))))))))))))))) (goodIn_app kfX1 (goodIn_app k_X1_putSinceNever (gd_nil))))
set_option maxHeartbeats 600000 in
set_option maxRecDepth 100000 in
theorem c_X1_init (l : Launch) (dC : Nat → ClassId) (dI : Nat → Nat → Nat) (cB cI cJ cZ cP : ClassId) (h0 : Nat) (sz : Nat) : Met l yX1_init v_X1_init ({ frames := 2, cells := 3, slots := 416, locals := 41 }) (va_Pc [.ref h0] (fun U => U.heap.size = sz ∧ va_P (dC, dI) vwCl [(h0, .inr (1, [.null, .null, .null, .int 0, .int 0, .int 0]))] U.heap ∧ va_K (dC, dI) vwCl (ty5 cB cI cJ cZ cP) U ∧ va_D (fun _ => True) [(h0, .inr (1, [.null, .null, .null, .int 0, .int 0, .int 0]))])) (va_Qv (fun _ : Unit => True) (fun _ t => ∃ (e0 : Nat) (e1 : Nat) (e2 : Nat), va_P (dC, dI) vwCl [(h0, .inr (1, [.ref e2, .ref e0, .ref e1, .int 3, .int 0, .int 0])), (e0, .inl (cI, 40, .inl (fun _ => 0))), (e1, .inl (cI, 16, .inl (fun _ => 0))), (e2, .inl (cI, 360, .inl (upd (upd (upd (fun _ => 0) (0 : Int32).toNatClampNeg (-14)) (1 : Int32).toNatClampNeg 99) (2 : Int32).toNatClampNeg (-23))))] t.heap ∧ va_D (va_A [(h0, .inr (1, [.null, .null, .null, .int 0, .int 0, .int 0]))] sz) [(h0, .inr (1, [.ref e2, .ref e0, .ref e1, .int 3, .int 0, .int 0])), (e0, .inl (cI, 40, .inl (fun _ => 0))), (e1, .inl (cI, 16, .inl (fun _ => 0))), (e2, .inl (cI, 360, .inl (upd (upd (upd (fun _ => 0) (0 : Int32).toNatClampNeg (-14)) (1 : Int32).toNatClampNeg 99) (2 : Int32).toNatClampNeg (-23))))]) (va_A [(h0, .inr (1, [.null, .null, .null, .int 0, .int 0, .int 0]))] sz)) 3 416 (va_A [(h0, .inr (1, [.null, .null, .null, .int 0, .int 0, .int 0]))] sz) := by
  refine Met.ofW (cc := cX1_init) (maxL := 1) (ret := none) (by decide) rfl ?_
  intro p e s m args below meth c s₁ B hml hv
  obtain ⟨rfl, hsz, hP, hK, hD0⟩ := hv
  have hx := B.exec
  have hb := B.bytes
  have hr := B.returns
  have hts := atoms_spec (ws := v_X1_init) B.pre
  have hown : s.vm.findClass RX1 = some m.cls := findClass_of_methodNamed B.named
  have hlocks := B.notSynchronized
  have hin : meth.name = "<init>" := (name_of_methodNamed B.named B.method).1
  have hinX1 : ∀ w ∈ wsX10, w ∈ v_X1_init := fun _ h => List.mem_cons_of_mem _ (List.mem_append_right _ (List.mem_append_left _ h))
  subst hsz
  have hD := hD0.self (sz := s.heap.size)
  generalize hAe : va_A [(h0, .inr (1, [.null, .null, .null, .int 0, .int 0, .int 0]))] s.heap.size = A at hD ⊢
  have hA : ∀ q : Nat, s.heap.size ≤ q → A q := fun q h => by rw [← hAe]; exact Or.inr h
  have hP : va_P (dC, dI) vwCl [(h0, .inr (1, [.null, .null, .null, .int 0, .int 0, .int 0]))] s.heap := hP
  have hl := lv_entry ([.ref h0]) (n := 1) (Nat.le_of_ble_eq_true rfl)
  rw [lg_entry_eq]
  generalize (lg_sl ([.ref h0]) ++ List.replicate (1 - (lg_sl ([.ref h0])).length) Slot.unset).toArray = ls at hl ⊢
  have hl : lv_has ls 1 [(0, .ref h0)] := hl
  refine W_gen (A := A) hP (fun H locs hP hS => ?_)
  refine lv_aload_n hx hb dX1_init_0 rfl (lv_at hl 0 rfl) ?_
  refine W.objInit hx hb hown (hts (.methodLink RX1 5 objectInit) (List.mem_of_getElem? (i := 1) rfl)) (hts (.instanceMethod objectInit) (List.mem_of_getElem? (i := 2) rfl)) (hts (.code objectInit ⟨#[0xb1]⟩ 1 none) (List.mem_of_getElem? (i := 3) rfl)) rfl (by rw [hml]; exact hl.1) rfl dX1_init_1 (Nat.le_of_ble_eq_true rfl) (Nat.le_of_ble_eq_true rfl) ?_
  refine W.eq (g2 := F0 m 4 ls []) rfl ?_
  refine lv_aload_n hx hb dX1_init_4 rfl (lv_at hl 0 rfl) ?_
  refine lv_sipush (v := 360) hx hb dX1_init_5 (by decide) ?_
  refine nw_arr (atype := .int) (N' := 360) (a0 := (360, .inl (fun _ => 0))) (ty := .int) hx hb (hts (.arrayClass .int) (List.mem_of_getElem? (i := 4) rfl)) rfl hK hP hD hS hA 1 rfl (fun _ => rfl) (by decide +kernel) (by decide +kernel) (by decide +kernel) (Nat.le_of_ble_eq_true rfl) (Nat.le_of_ble_eq_true rfl) dX1_init_8 (fun q422 H hP hD hS => ?_)
  refine W.widen (k := 1) (n := 360) (Nat.le_of_ble_eq_true rfl) (Nat.le_of_ble_eq_true rfl) ?_
  have hP : va_P (dC, dI) vwCl [(h0, .inr (1, [.null, .null, .null, .int 0, .int 0, .int 0])), (q422, .inl (cI, 360, .inl (fun _ => 0)))] H := hP
  have hD : va_D A [(h0, .inr (1, [.null, .null, .null, .int 0, .int 0, .int 0])), (q422, .inl (cI, 360, .inl (fun _ => 0)))] := hD
  refine va_putF (D := (dC, dI)) (ci := 1) (v := .ref q422) (ty := .array .int) (C := RX1) (T := TX1) (N := 6) hx hb hts hinX1 tyX1 tyX1_ok nmX1 hown hK hP hD hS 0 rfl rfl 0 (by decide) (hts (.fieldLink RX1 11 "MayRings$Law" "codes" "[I") (List.mem_of_getElem? (i := 5) rfl)) (fun _ h9 => h9) rfl hin rfl (by decide +kernel) rfl rfl (Nat.le_of_ble_eq_true rfl) dX1_init_10 (fun H locs hP hD hS => ?_)
  have hP : va_P (dC, dI) vwCl [(h0, .inr (1, [.ref q422, .null, .null, .int 0, .int 0, .int 0])), (q422, .inl (cI, 360, .inl (fun _ => 0)))] H := hP
  have hD : va_D A [(h0, .inr (1, [.ref q422, .null, .null, .int 0, .int 0, .int 0])), (q422, .inl (cI, 360, .inl (fun _ => 0)))] := hD
  refine lv_aload_n hx hb dX1_init_13 rfl (lv_at hl 0 rfl) ?_
  refine lv_bipush (v := 40) hx hb dX1_init_14 (by decide) ?_
  refine nw_arr (atype := .int) (N' := 40) (a0 := (40, .inl (fun _ => 0))) (ty := .int) hx hb (hts (.arrayClass .int) (List.mem_of_getElem? (i := 4) rfl)) rfl hK hP hD hS hA 1 rfl (fun _ => rfl) (by decide +kernel) (by decide +kernel) (by decide +kernel) (Nat.le_of_ble_eq_true rfl) (Nat.le_of_ble_eq_true rfl) dX1_init_16 (fun q423 H hP hD hS => ?_)
  refine W.widen (k := 2) (n := 400) (Nat.le_of_ble_eq_true rfl) (Nat.le_of_ble_eq_true rfl) ?_
  have hP : va_P (dC, dI) vwCl [(h0, .inr (1, [.ref q422, .null, .null, .int 0, .int 0, .int 0])), (q422, .inl (cI, 360, .inl (fun _ => 0))), (q423, .inl (cI, 40, .inl (fun _ => 0)))] H := hP
  have hD : va_D A [(h0, .inr (1, [.ref q422, .null, .null, .int 0, .int 0, .int 0])), (q422, .inl (cI, 360, .inl (fun _ => 0))), (q423, .inl (cI, 40, .inl (fun _ => 0)))] := hD
  refine va_putF (D := (dC, dI)) (ci := 1) (v := .ref q423) (ty := .array .int) (C := RX1) (T := TX1) (N := 6) hx hb hts hinX1 tyX1 tyX1_ok nmX1 hown hK hP hD hS 0 rfl rfl 1 (by decide) (hts (.fieldLink RX1 15 "MayRings$Law" "stack" "[I") (List.mem_of_getElem? (i := 6) rfl)) (fun _ h9 => h9) rfl hin rfl (by decide +kernel) rfl rfl (Nat.le_of_ble_eq_true rfl) dX1_init_18 (fun H locs hP hD hS => ?_)
  have hP : va_P (dC, dI) vwCl [(h0, .inr (1, [.ref q422, .ref q423, .null, .int 0, .int 0, .int 0])), (q422, .inl (cI, 360, .inl (fun _ => 0))), (q423, .inl (cI, 40, .inl (fun _ => 0)))] H := hP
  have hD : va_D A [(h0, .inr (1, [.ref q422, .ref q423, .null, .int 0, .int 0, .int 0])), (q422, .inl (cI, 360, .inl (fun _ => 0))), (q423, .inl (cI, 40, .inl (fun _ => 0)))] := hD
  refine lv_aload_n hx hb dX1_init_21 rfl (lv_at hl 0 rfl) ?_
  refine lv_bipush (v := 16) hx hb dX1_init_22 (by decide) ?_
  refine nw_arr (atype := .int) (N' := 16) (a0 := (16, .inl (fun _ => 0))) (ty := .int) hx hb (hts (.arrayClass .int) (List.mem_of_getElem? (i := 4) rfl)) rfl hK hP hD hS hA 1 rfl (fun _ => rfl) (by decide +kernel) (by decide +kernel) (by decide +kernel) (Nat.le_of_ble_eq_true rfl) (Nat.le_of_ble_eq_true rfl) dX1_init_24 (fun q424 H hP hD hS => ?_)
  refine W.widen (k := 3) (n := 416) (Nat.le_of_ble_eq_true rfl) (Nat.le_of_ble_eq_true rfl) ?_
  have hP : va_P (dC, dI) vwCl [(h0, .inr (1, [.ref q422, .ref q423, .null, .int 0, .int 0, .int 0])), (q422, .inl (cI, 360, .inl (fun _ => 0))), (q423, .inl (cI, 40, .inl (fun _ => 0))), (q424, .inl (cI, 16, .inl (fun _ => 0)))] H := hP
  have hD : va_D A [(h0, .inr (1, [.ref q422, .ref q423, .null, .int 0, .int 0, .int 0])), (q422, .inl (cI, 360, .inl (fun _ => 0))), (q423, .inl (cI, 40, .inl (fun _ => 0))), (q424, .inl (cI, 16, .inl (fun _ => 0)))] := hD
  refine va_putF (D := (dC, dI)) (ci := 1) (v := .ref q424) (ty := .array .int) (C := RX1) (T := TX1) (N := 6) hx hb hts hinX1 tyX1 tyX1_ok nmX1 hown hK hP hD hS 0 rfl rfl 2 (by decide) (hts (.fieldLink RX1 18 "MayRings$Law" "facts" "[I") (List.mem_of_getElem? (i := 7) rfl)) (fun _ h9 => h9) rfl hin rfl (by decide +kernel) rfl rfl (Nat.le_of_ble_eq_true rfl) dX1_init_26 (fun H locs hP hD hS => ?_)
  have hP : va_P (dC, dI) vwCl [(h0, .inr (1, [.ref q422, .ref q423, .ref q424, .int 0, .int 0, .int 0])), (q422, .inl (cI, 360, .inl (fun _ => 0))), (q423, .inl (cI, 40, .inl (fun _ => 0))), (q424, .inl (cI, 16, .inl (fun _ => 0)))] H := hP
  have hD : va_D A [(h0, .inr (1, [.ref q422, .ref q423, .ref q424, .int 0, .int 0, .int 0])), (q422, .inl (cI, 360, .inl (fun _ => 0))), (q423, .inl (cI, 40, .inl (fun _ => 0))), (q424, .inl (cI, 16, .inl (fun _ => 0)))] := hD
  refine lv_aload_n hx hb dX1_init_29 rfl (lv_at hl 0 rfl) ?_
  refine lv_iconst (v := 0) hx hb dX1_init_30 (by decide) ?_
  refine va_put (D := (dC, dI)) (ci := 1) (v := .int 0) (ty := .int) (C := RX1) (T := TX1) (N := 6) hx hb hts hinX1 tyX1 tyX1_ok nmX1 hown hK hP hD hS 0 rfl rfl 3 (by decide) (hts (.fieldLink RX1 21 "MayRings$Law" "length" "I") (List.mem_of_getElem? (i := 8) rfl)) (fun _ h9 => h9) rfl (by decide +kernel) rfl rfl (Nat.le_of_ble_eq_true rfl) dX1_init_31 (fun H locs hP hD hS => ?_)
  have hP : va_P (dC, dI) vwCl [(h0, .inr (1, [.ref q422, .ref q423, .ref q424, .int 0, .int 0, .int 0])), (q422, .inl (cI, 360, .inl (fun _ => 0))), (q423, .inl (cI, 40, .inl (fun _ => 0))), (q424, .inl (cI, 16, .inl (fun _ => 0)))] H := hP
  have hD : va_D A [(h0, .inr (1, [.ref q422, .ref q423, .ref q424, .int 0, .int 0, .int 0])), (q422, .inl (cI, 360, .inl (fun _ => 0))), (q423, .inl (cI, 40, .inl (fun _ => 0))), (q424, .inl (cI, 16, .inl (fun _ => 0)))] := hD
  refine lv_aload_n hx hb dX1_init_34 rfl (lv_at hl 0 rfl) ?_
  refine lv_iconst (v := 0) hx hb dX1_init_35 (by decide) ?_
  refine va_put (D := (dC, dI)) (ci := 1) (v := .int 0) (ty := .int) (C := RX1) (T := TX1) (N := 6) hx hb hts hinX1 tyX1 tyX1_ok nmX1 hown hK hP hD hS 0 rfl rfl 4 (by decide) (hts (.fieldLink RX1 25 "MayRings$Law" "top" "I") (List.mem_of_getElem? (i := 9) rfl)) (fun _ h9 => h9) rfl (by decide +kernel) rfl rfl (Nat.le_of_ble_eq_true rfl) dX1_init_36 (fun H locs hP hD hS => ?_)
  have hP : va_P (dC, dI) vwCl [(h0, .inr (1, [.ref q422, .ref q423, .ref q424, .int 0, .int 0, .int 0])), (q422, .inl (cI, 360, .inl (fun _ => 0))), (q423, .inl (cI, 40, .inl (fun _ => 0))), (q424, .inl (cI, 16, .inl (fun _ => 0)))] H := hP
  have hD : va_D A [(h0, .inr (1, [.ref q422, .ref q423, .ref q424, .int 0, .int 0, .int 0])), (q422, .inl (cI, 360, .inl (fun _ => 0))), (q423, .inl (cI, 40, .inl (fun _ => 0))), (q424, .inl (cI, 16, .inl (fun _ => 0)))] := hD
  refine lv_aload_n hx hb dX1_init_39 rfl (lv_at hl 0 rfl) ?_
  refine lv_iconst (v := 0) hx hb dX1_init_40 (by decide) ?_
  refine va_put (D := (dC, dI)) (ci := 1) (v := .int 0) (ty := .int) (C := RX1) (T := TX1) (N := 6) hx hb hts hinX1 tyX1 tyX1_ok nmX1 hown hK hP hD hS 0 rfl rfl 5 (by decide) (hts (.fieldLink RX1 28 "MayRings$Law" "units" "I") (List.mem_of_getElem? (i := 10) rfl)) (fun _ h9 => h9) rfl (by decide +kernel) rfl rfl (Nat.le_of_ble_eq_true rfl) dX1_init_41 (fun H locs hP hD hS => ?_)
  have hP : va_P (dC, dI) vwCl [(h0, .inr (1, [.ref q422, .ref q423, .ref q424, .int 0, .int 0, .int 0])), (q422, .inl (cI, 360, .inl (fun _ => 0))), (q423, .inl (cI, 40, .inl (fun _ => 0))), (q424, .inl (cI, 16, .inl (fun _ => 0)))] H := hP
  have hD : va_D A [(h0, .inr (1, [.ref q422, .ref q423, .ref q424, .int 0, .int 0, .int 0])), (q422, .inl (cI, 360, .inl (fun _ => 0))), (q423, .inl (cI, 40, .inl (fun _ => 0))), (q424, .inl (cI, 16, .inl (fun _ => 0)))] := hD
  refine lv_aload_n hx hb dX1_init_44 rfl (lv_at hl 0 rfl) ?_
  have hPc := hP.sub (ws' := [(h0, .inr (1, [.ref q422, .ref q423, .ref q424, .int 0, .int 0, .int 0])), (q422, .inl (cI, 360, .inl (fun _ => 0)))]) [0, 1] rfl
  have hDc := hD.sub (ws' := [(h0, .inr (1, [.ref q422, .ref q423, .ref q424, .int 0, .int 0, .int 0])), (q422, .inl (cI, 360, .inl (fun _ => 0)))]) [0, 1] (by decide) rfl
  have hFc := va_free (wc := [(h0, .inr (1, [.ref q422, .ref q423, .ref q424, .int 0, .int 0, .int 0])), (q422, .inl (cI, 360, .inl (fun _ => 0)))]) hD hS hA [0, 1] rfl
  refine va_callv (va_runV (As := []) (rest := []) ⟨hx, hb, hml, hown, hts⟩ (c_X1_putSinceNever l dC dI cB cI cJ cZ cP h0 q422 q423 q424 H.size) (cwV 0 hts (gd_V (List.mem_of_getElem? (i := 11) rfl) (List.mem_of_getElem? (i := 12) rfl) (List.mem_of_getElem? (i := 13) rfl) (List.mem_of_getElem? (i := 14) rfl) (gd_mono k_X1_putSinceNever (fun _ h => List.mem_cons_of_mem _ (List.mem_append_right _ (List.mem_append_right _ (List.mem_append_left _ h)))))) rfl rfl rfl (by decide +kernel) ⟨Nat.le_of_ble_eq_true rfl, Nat.le_of_ble_eq_true rfl⟩) ⟨fun a U g mk q => by obtain ⟨q0, q1, qP, qK, qD⟩ := q; exact ⟨q0, q1, qP, va_K.moved (u := U) (U := U.calling g mk a) (Vm.Alike.refl U.vm) qK, qD⟩, va_recv hK hPc (ci := 1) (q0 := 0) rfl rfl, fun U hU hW => ⟨rfl, by rw [hU], by rw [hU]; exact hPc, va_K.moved hW.alike hK, hDc.weaken (fun _ _ _ _ => trivial)⟩⟩ rfl rfl hl.1 rfl (lv_room (Nat.le_of_ble_eq_true rfl)) dX1_init_45 ⟨Nat.le_of_ble_eq_true rfl, Nat.le_of_ble_eq_true rfl⟩) hS (fun q _ h => hFc q h) hFc (fun u t H1 locs ht hvm hw hB hz1 hk1 hS => ?_)
  obtain ⟨hP1, hD1⟩ := hB
  rw [ht] at hP1
  obtain ⟨hP, hD⟩ := va_join (wr := [(q423, .inl (cI, 40, .inl (fun _ => 0))), (q424, .inl (cI, 16, .inl (fun _ => 0)))]) (w1 := [(h0, .inr (1, [.ref q422, .ref q423, .ref q424, .int 3, .int 0, .int 0])), (q422, .inl (cI, 360, .inl (upd (upd (upd (fun _ => 0) (0 : Int32).toNatClampNeg (-14)) (1 : Int32).toNatClampNeg 99) (2 : Int32).toNatClampNeg (-23))))]) hP hD [0, 1] [2, 3] rfl rfl (by decide) (by decide) hk1 hFc hP1 hD1
  generalize H1 = H at hP hS ⊢
  have hP : va_P (dC, dI) vwCl [(q423, .inl (cI, 40, .inl (fun _ => 0))), (q424, .inl (cI, 16, .inl (fun _ => 0))), (h0, .inr (1, [.ref q422, .ref q423, .ref q424, .int 3, .int 0, .int 0])), (q422, .inl (cI, 360, .inl (upd (upd (upd (fun _ => 0) (0 : Int32).toNatClampNeg (-14)) (1 : Int32).toNatClampNeg 99) (2 : Int32).toNatClampNeg (-23))))] H := hP
  have hD : va_D A [(q423, .inl (cI, 40, .inl (fun _ => 0))), (q424, .inl (cI, 16, .inl (fun _ => 0))), (h0, .inr (1, [.ref q422, .ref q423, .ref q424, .int 3, .int 0, .int 0])), (q422, .inl (cI, 360, .inl (upd (upd (upd (fun _ => 0) (0 : Int32).toNatClampNeg (-14)) (1 : Int32).toNatClampNeg 99) (2 : Int32).toNatClampNeg (-23))))] := hD
  have hP9 := hP.sub (ws' := [(h0, .inr (1, [.ref q422, .ref q423, .ref q424, .int 3, .int 0, .int 0])), (q423, .inl (cI, 40, .inl (fun _ => 0))), (q424, .inl (cI, 16, .inl (fun _ => 0))), (q422, .inl (cI, 360, .inl (upd (upd (upd (fun _ => 0) (0 : Int32).toNatClampNeg (-14)) (1 : Int32).toNatClampNeg 99) (2 : Int32).toNatClampNeg (-23))))]) [2, 0, 1, 3] rfl
  have hD9 := hD.sub (ws' := [(h0, .inr (1, [.ref q422, .ref q423, .ref q424, .int 3, .int 0, .int 0])), (q423, .inl (cI, 40, .inl (fun _ => 0))), (q424, .inl (cI, 16, .inl (fun _ => 0))), (q422, .inl (cI, 360, .inl (upd (upd (upd (fun _ => 0) (0 : Int32).toNatClampNeg (-14)) (1 : Int32).toNatClampNeg 99) (2 : Int32).toNatClampNeg (-23))))]) [2, 0, 1, 3] (by decide) rfl
  refine W.widen (k := 3) (n := 416) (Nat.le_of_ble_eq_true rfl) (Nat.le_of_ble_eq_true rfl) ?_
  exact W.vret hx hb hr (fun t ht hW => ⟨⟨(), rfl, trivial, ⟨q423, q424, q422, by rw [ht]; exact hP9, hD9⟩⟩, hS.F ht⟩) hS.2.2 dX1_init_48
def v_X6_init : List Cond := Cond.code yX6_init cX6_init 1 none :: ([Cond.methodLink RX6 3 objectInit, Cond.instanceMethod objectInit, Cond.code objectInit ⟨#[0xb1]⟩ 1 none, Cond.arrayClass .long, Cond.fieldLink RX6 9 "MayRings$Valley" "names" "[J", Cond.arrayClass .int, Cond.fieldLink RX6 15 "MayRings$Valley" "weights" "[I", Cond.fieldLink RX6 19 "MayRings$Valley" "bears" "[I", Cond.fieldLink RX6 22 "MayRings$Valley" "quarrels" "[I", Cond.fieldLink RX6 25 "MayRings$Valley" "worths" "[I", Cond.classLink RX6 28 RX1, Cond.instantiable RX1 6, Cond.initialized RX1, Cond.methodLink RX6 30 yX1_init, Cond.instanceMethod yX1_init, Cond.fieldLink RX6 31 "MayRings$Valley" "law" "LMayRings$Law;", Cond.fieldLink RX6 35 "MayRings$Valley" "houses" "I", Cond.fieldLink RX6 39 "MayRings$Valley" "quarrelCount" "I", Cond.fieldLink RX6 42 "MayRings$Valley" "wishCount" "I", Cond.fieldLink RX6 45 "MayRings$Valley" "street" "Z", Cond.methodLink RX6 49 yJ7_fill_53178, Cond.static yJ7_fill_53178, Cond.initialized RJ7] ++ (wsX10 ++ (wsX60 ++ (v_X1_init ++ (v_fill1 ++ ([]))))))
theorem k_X6_init : GoodIn lw_tbl v_X6_init := gd_c (List.mem_of_getElem? (i := 167) (by decide +kernel)) rfl (goodIn_app (gd_c (List.mem_of_getElem? (i := 168) (by decide +kernel)) rfl (gd_c (List.mem_of_getElem? (i := 155) (by decide +kernel)) rfl (gd_c (List.mem_of_getElem? (i := 156) (by decide +kernel)) rfl (gd_c (List.mem_of_getElem? (i := 205) (by decide +kernel)) rfl (gd_c (List.mem_of_getElem? (i := 210) (by decide +kernel)) rfl (gd_c (List.mem_of_getElem? (i := 206) (by decide +kernel)) rfl (gd_c (List.mem_of_getElem? (i := 211) (by decide +kernel)) rfl (gd_c (List.mem_of_getElem? (i := 213) (by decide +kernel)) rfl (gd_c (List.mem_of_getElem? (i := 216) (by decide +kernel)) rfl (gd_c (List.mem_of_getElem? (i := 218) (by decide +kernel)) rfl (gd_c (List.mem_of_getElem? (i := 169) (by decide +kernel)) rfl (gd_c (List.mem_of_getElem? (i := 170) (by decide +kernel)) rfl (gd_c (List.mem_of_getElem? (i := 133) (by decide +kernel)) rfl (gd_c (List.mem_of_getElem? (i := 171) (by decide +kernel)) rfl (gd_c (List.mem_of_getElem? (i := 172) (by decide +kernel)) rfl (gd_c (List.mem_of_getElem? (i := 221) (by decide +kernel)) rfl (gd_c (List.mem_of_getElem? (i := 224) (by decide +kernel)) rfl (gd_c (List.mem_of_getElem? (i := 227) (by decide +kernel)) rfl (gd_c (List.mem_of_getElem? (i := 229) (by decide +kernel)) rfl (gd_c (List.mem_of_getElem? (i := 231) (by decide +kernel)) rfl (gd_c (List.mem_of_getElem? (i := 207) (by decide +kernel)) rfl (gd_c (List.mem_of_getElem? (i := 208) (by decide +kernel)) rfl (gd_c (List.mem_of_getElem? (i := 134) (by decide +kernel)) rfl (gd_nil)))))))))))))))))))))))) (goodIn_app kfX1 (goodIn_app kfX6 (goodIn_app k_X1_init (goodIn_app k_fill1 (gd_nil))))))
set_option maxHeartbeats 600000 in
set_option maxRecDepth 100000 in
theorem c_X6_init (l : Launch) (dC : Nat → ClassId) (dI : Nat → Nat → Nat) (cB cI cJ cZ cP : ClassId) (h0 : Nat) (sz : Nat) : Met l yX6_init v_X6_init ({ frames := 3, cells := 9, slots := 539, locals := 61 }) (va_Pc [.ref h0] (fun U => U.heap.size = sz ∧ va_P (dC, dI) vwCl [(h0, .inr (6, [.null, .null, .null, .null, .null, .null, .int 0, .int 0, .int 0, .int 0]))] U.heap ∧ va_K (dC, dI) vwCl (ty5 cB cI cJ cZ cP) U ∧ va_D (fun _ => True) [(h0, .inr (6, [.null, .null, .null, .null, .null, .null, .int 0, .int 0, .int 0, .int 0]))])) (va_Qv (fun _ : Unit => True) (fun _ t => ∃ (e0 : Nat) (e1 : Nat) (e2 : Nat) (e3 : Nat) (e4 : Nat) (e5 : Nat) (e6 : Nat) (e7 : Nat) (e8 : Nat), va_P (dC, dI) vwCl [(h0, .inr (6, [.ref e0, .ref e1, .ref e8, .ref e2, .ref e3, .ref e4, .int 0, .int 0, .int 0, .int 0])), (e0, .inl (cJ, 9, .inr (.inl (fun _ => 0)))), (e1, .inl (cI, 9, .inl (fun _ => 0))), (e2, .inl (cI, 9, .inl (fun _ => 0))), (e3, .inl (cI, 81, .inl (fun _ => 0))), (e4, .inr (1, [.ref e7, .ref e5, .ref e6, .int 3, .int 0, .int 0])), (e5, .inl (cI, 40, .inl (fun _ => 0))), (e6, .inl (cI, 16, .inl (fun _ => 0))), (e7, .inl (cI, 360, .inl (upd (upd (upd (fun _ => 0) (0 : Int32).toNatClampNeg (-14)) (1 : Int32).toNatClampNeg 99) (2 : Int32).toNatClampNeg (-23)))), (e8, .inl (cI, 9, .inl (fun _ => 999)))] t.heap ∧ va_D (va_A [(h0, .inr (6, [.null, .null, .null, .null, .null, .null, .int 0, .int 0, .int 0, .int 0]))] sz) [(h0, .inr (6, [.ref e0, .ref e1, .ref e8, .ref e2, .ref e3, .ref e4, .int 0, .int 0, .int 0, .int 0])), (e0, .inl (cJ, 9, .inr (.inl (fun _ => 0)))), (e1, .inl (cI, 9, .inl (fun _ => 0))), (e2, .inl (cI, 9, .inl (fun _ => 0))), (e3, .inl (cI, 81, .inl (fun _ => 0))), (e4, .inr (1, [.ref e7, .ref e5, .ref e6, .int 3, .int 0, .int 0])), (e5, .inl (cI, 40, .inl (fun _ => 0))), (e6, .inl (cI, 16, .inl (fun _ => 0))), (e7, .inl (cI, 360, .inl (upd (upd (upd (fun _ => 0) (0 : Int32).toNatClampNeg (-14)) (1 : Int32).toNatClampNeg 99) (2 : Int32).toNatClampNeg (-23)))), (e8, .inl (cI, 9, .inl (fun _ => 999)))]) (va_A [(h0, .inr (6, [.null, .null, .null, .null, .null, .null, .int 0, .int 0, .int 0, .int 0]))] sz)) 9 539 (va_A [(h0, .inr (6, [.null, .null, .null, .null, .null, .null, .int 0, .int 0, .int 0, .int 0]))] sz) := by
  refine Met.ofW (cc := cX6_init) (maxL := 1) (ret := none) (by decide) rfl ?_
  intro p e s m args below meth c s₁ B hml hv
  obtain ⟨rfl, hsz, hP, hK, hD0⟩ := hv
  have hx := B.exec
  have hb := B.bytes
  have hr := B.returns
  have hts := atoms_spec (ws := v_X6_init) B.pre
  have hown : s.vm.findClass RX6 = some m.cls := findClass_of_methodNamed B.named
  have hlocks := B.notSynchronized
  have hin : meth.name = "<init>" := (name_of_methodNamed B.named B.method).1
  have hinX1 : ∀ w ∈ wsX10, w ∈ v_X6_init := fun _ h => List.mem_cons_of_mem _ (List.mem_append_right _ (List.mem_append_left _ h))
  have hinX6 : ∀ w ∈ wsX60, w ∈ v_X6_init := fun _ h => List.mem_cons_of_mem _ (List.mem_append_right _ (List.mem_append_right _ (List.mem_append_left _ h)))
  subst hsz
  have hD := hD0.self (sz := s.heap.size)
  generalize hAe : va_A [(h0, .inr (6, [.null, .null, .null, .null, .null, .null, .int 0, .int 0, .int 0, .int 0]))] s.heap.size = A at hD ⊢
  have hA : ∀ q : Nat, s.heap.size ≤ q → A q := fun q h => by rw [← hAe]; exact Or.inr h
  have hP : va_P (dC, dI) vwCl [(h0, .inr (6, [.null, .null, .null, .null, .null, .null, .int 0, .int 0, .int 0, .int 0]))] s.heap := hP
  have hl := lv_entry ([.ref h0]) (n := 1) (Nat.le_of_ble_eq_true rfl)
  rw [lg_entry_eq]
  generalize (lg_sl ([.ref h0]) ++ List.replicate (1 - (lg_sl ([.ref h0])).length) Slot.unset).toArray = ls at hl ⊢
  have hl : lv_has ls 1 [(0, .ref h0)] := hl
  refine W_gen (A := A) hP (fun H locs hP hS => ?_)
  refine lv_aload_n hx hb dX6_init_0 rfl (lv_at hl 0 rfl) ?_
  refine W.objInit hx hb hown (hts (.methodLink RX6 3 objectInit) (List.mem_of_getElem? (i := 1) rfl)) (hts (.instanceMethod objectInit) (List.mem_of_getElem? (i := 2) rfl)) (hts (.code objectInit ⟨#[0xb1]⟩ 1 none) (List.mem_of_getElem? (i := 3) rfl)) rfl (by rw [hml]; exact hl.1) rfl dX6_init_1 (Nat.le_of_ble_eq_true rfl) (Nat.le_of_ble_eq_true rfl) ?_
  refine W.eq (g2 := F0 m 4 ls []) rfl ?_
  refine lv_aload_n hx hb dX6_init_4 rfl (lv_at hl 0 rfl) ?_
  refine lv_bipush (v := 9) hx hb dX6_init_5 (by decide) ?_
  refine nw_arr (atype := .long) (N' := 9) (a0 := (9, .inr (.inl (fun _ => 0)))) (ty := .long) hx hb (hts (.arrayClass .long) (List.mem_of_getElem? (i := 4) rfl)) rfl hK hP hD hS hA 2 rfl (fun _ => rfl) (by decide +kernel) (by decide +kernel) (by decide +kernel) (Nat.le_of_ble_eq_true rfl) (Nat.le_of_ble_eq_true rfl) dX6_init_7 (fun q425 H hP hD hS => ?_)
  refine W.widen (k := 1) (n := 9) (Nat.le_of_ble_eq_true rfl) (Nat.le_of_ble_eq_true rfl) ?_
  have hP : va_P (dC, dI) vwCl [(h0, .inr (6, [.null, .null, .null, .null, .null, .null, .int 0, .int 0, .int 0, .int 0])), (q425, .inl (cJ, 9, .inr (.inl (fun _ => 0))))] H := hP
  have hD : va_D A [(h0, .inr (6, [.null, .null, .null, .null, .null, .null, .int 0, .int 0, .int 0, .int 0])), (q425, .inl (cJ, 9, .inr (.inl (fun _ => 0))))] := hD
  refine va_putF (D := (dC, dI)) (ci := 6) (v := .ref q425) (ty := .array .long) (C := RX6) (T := TX6) (N := 10) hx hb hts hinX6 tyX6 tyX6_ok nmX6 hown hK hP hD hS 0 rfl rfl 0 (by decide) (hts (.fieldLink RX6 9 "MayRings$Valley" "names" "[J") (List.mem_of_getElem? (i := 5) rfl)) (fun _ h9 => h9) rfl hin rfl (by decide +kernel) rfl rfl (Nat.le_of_ble_eq_true rfl) dX6_init_9 (fun H locs hP hD hS => ?_)
  have hP : va_P (dC, dI) vwCl [(h0, .inr (6, [.ref q425, .null, .null, .null, .null, .null, .int 0, .int 0, .int 0, .int 0])), (q425, .inl (cJ, 9, .inr (.inl (fun _ => 0))))] H := hP
  have hD : va_D A [(h0, .inr (6, [.ref q425, .null, .null, .null, .null, .null, .int 0, .int 0, .int 0, .int 0])), (q425, .inl (cJ, 9, .inr (.inl (fun _ => 0))))] := hD
  refine lv_aload_n hx hb dX6_init_12 rfl (lv_at hl 0 rfl) ?_
  refine lv_bipush (v := 9) hx hb dX6_init_13 (by decide) ?_
  refine nw_arr (atype := .int) (N' := 9) (a0 := (9, .inl (fun _ => 0))) (ty := .int) hx hb (hts (.arrayClass .int) (List.mem_of_getElem? (i := 6) rfl)) rfl hK hP hD hS hA 1 rfl (fun _ => rfl) (by decide +kernel) (by decide +kernel) (by decide +kernel) (Nat.le_of_ble_eq_true rfl) (Nat.le_of_ble_eq_true rfl) dX6_init_15 (fun q426 H hP hD hS => ?_)
  refine W.widen (k := 2) (n := 18) (Nat.le_of_ble_eq_true rfl) (Nat.le_of_ble_eq_true rfl) ?_
  have hP : va_P (dC, dI) vwCl [(h0, .inr (6, [.ref q425, .null, .null, .null, .null, .null, .int 0, .int 0, .int 0, .int 0])), (q425, .inl (cJ, 9, .inr (.inl (fun _ => 0)))), (q426, .inl (cI, 9, .inl (fun _ => 0)))] H := hP
  have hD : va_D A [(h0, .inr (6, [.ref q425, .null, .null, .null, .null, .null, .int 0, .int 0, .int 0, .int 0])), (q425, .inl (cJ, 9, .inr (.inl (fun _ => 0)))), (q426, .inl (cI, 9, .inl (fun _ => 0)))] := hD
  refine va_putF (D := (dC, dI)) (ci := 6) (v := .ref q426) (ty := .array .int) (C := RX6) (T := TX6) (N := 10) hx hb hts hinX6 tyX6 tyX6_ok nmX6 hown hK hP hD hS 0 rfl rfl 1 (by decide) (hts (.fieldLink RX6 15 "MayRings$Valley" "weights" "[I") (List.mem_of_getElem? (i := 7) rfl)) (fun _ h9 => h9) rfl hin rfl (by decide +kernel) rfl rfl (Nat.le_of_ble_eq_true rfl) dX6_init_17 (fun H locs hP hD hS => ?_)
  have hP : va_P (dC, dI) vwCl [(h0, .inr (6, [.ref q425, .ref q426, .null, .null, .null, .null, .int 0, .int 0, .int 0, .int 0])), (q425, .inl (cJ, 9, .inr (.inl (fun _ => 0)))), (q426, .inl (cI, 9, .inl (fun _ => 0)))] H := hP
  have hD : va_D A [(h0, .inr (6, [.ref q425, .ref q426, .null, .null, .null, .null, .int 0, .int 0, .int 0, .int 0])), (q425, .inl (cJ, 9, .inr (.inl (fun _ => 0)))), (q426, .inl (cI, 9, .inl (fun _ => 0)))] := hD
  refine lv_aload_n hx hb dX6_init_20 rfl (lv_at hl 0 rfl) ?_
  refine lv_bipush (v := 9) hx hb dX6_init_21 (by decide) ?_
  refine nw_arr (atype := .int) (N' := 9) (a0 := (9, .inl (fun _ => 0))) (ty := .int) hx hb (hts (.arrayClass .int) (List.mem_of_getElem? (i := 6) rfl)) rfl hK hP hD hS hA 1 rfl (fun _ => rfl) (by decide +kernel) (by decide +kernel) (by decide +kernel) (Nat.le_of_ble_eq_true rfl) (Nat.le_of_ble_eq_true rfl) dX6_init_23 (fun q427 H hP hD hS => ?_)
  refine W.widen (k := 3) (n := 27) (Nat.le_of_ble_eq_true rfl) (Nat.le_of_ble_eq_true rfl) ?_
  have hP : va_P (dC, dI) vwCl [(h0, .inr (6, [.ref q425, .ref q426, .null, .null, .null, .null, .int 0, .int 0, .int 0, .int 0])), (q425, .inl (cJ, 9, .inr (.inl (fun _ => 0)))), (q426, .inl (cI, 9, .inl (fun _ => 0))), (q427, .inl (cI, 9, .inl (fun _ => 0)))] H := hP
  have hD : va_D A [(h0, .inr (6, [.ref q425, .ref q426, .null, .null, .null, .null, .int 0, .int 0, .int 0, .int 0])), (q425, .inl (cJ, 9, .inr (.inl (fun _ => 0)))), (q426, .inl (cI, 9, .inl (fun _ => 0))), (q427, .inl (cI, 9, .inl (fun _ => 0)))] := hD
  refine va_putF (D := (dC, dI)) (ci := 6) (v := .ref q427) (ty := .array .int) (C := RX6) (T := TX6) (N := 10) hx hb hts hinX6 tyX6 tyX6_ok nmX6 hown hK hP hD hS 0 rfl rfl 2 (by decide) (hts (.fieldLink RX6 19 "MayRings$Valley" "bears" "[I") (List.mem_of_getElem? (i := 8) rfl)) (fun _ h9 => h9) rfl hin rfl (by decide +kernel) rfl rfl (Nat.le_of_ble_eq_true rfl) dX6_init_25 (fun H locs hP hD hS => ?_)
  have hP : va_P (dC, dI) vwCl [(h0, .inr (6, [.ref q425, .ref q426, .ref q427, .null, .null, .null, .int 0, .int 0, .int 0, .int 0])), (q425, .inl (cJ, 9, .inr (.inl (fun _ => 0)))), (q426, .inl (cI, 9, .inl (fun _ => 0))), (q427, .inl (cI, 9, .inl (fun _ => 0)))] H := hP
  have hD : va_D A [(h0, .inr (6, [.ref q425, .ref q426, .ref q427, .null, .null, .null, .int 0, .int 0, .int 0, .int 0])), (q425, .inl (cJ, 9, .inr (.inl (fun _ => 0)))), (q426, .inl (cI, 9, .inl (fun _ => 0))), (q427, .inl (cI, 9, .inl (fun _ => 0)))] := hD
  refine lv_aload_n hx hb dX6_init_28 rfl (lv_at hl 0 rfl) ?_
  refine lv_bipush (v := 9) hx hb dX6_init_29 (by decide) ?_
  refine nw_arr (atype := .int) (N' := 9) (a0 := (9, .inl (fun _ => 0))) (ty := .int) hx hb (hts (.arrayClass .int) (List.mem_of_getElem? (i := 6) rfl)) rfl hK hP hD hS hA 1 rfl (fun _ => rfl) (by decide +kernel) (by decide +kernel) (by decide +kernel) (Nat.le_of_ble_eq_true rfl) (Nat.le_of_ble_eq_true rfl) dX6_init_31 (fun q428 H hP hD hS => ?_)
  refine W.widen (k := 4) (n := 36) (Nat.le_of_ble_eq_true rfl) (Nat.le_of_ble_eq_true rfl) ?_
  have hP : va_P (dC, dI) vwCl [(h0, .inr (6, [.ref q425, .ref q426, .ref q427, .null, .null, .null, .int 0, .int 0, .int 0, .int 0])), (q425, .inl (cJ, 9, .inr (.inl (fun _ => 0)))), (q426, .inl (cI, 9, .inl (fun _ => 0))), (q427, .inl (cI, 9, .inl (fun _ => 0))), (q428, .inl (cI, 9, .inl (fun _ => 0)))] H := hP
  have hD : va_D A [(h0, .inr (6, [.ref q425, .ref q426, .ref q427, .null, .null, .null, .int 0, .int 0, .int 0, .int 0])), (q425, .inl (cJ, 9, .inr (.inl (fun _ => 0)))), (q426, .inl (cI, 9, .inl (fun _ => 0))), (q427, .inl (cI, 9, .inl (fun _ => 0))), (q428, .inl (cI, 9, .inl (fun _ => 0)))] := hD
  refine va_putF (D := (dC, dI)) (ci := 6) (v := .ref q428) (ty := .array .int) (C := RX6) (T := TX6) (N := 10) hx hb hts hinX6 tyX6 tyX6_ok nmX6 hown hK hP hD hS 0 rfl rfl 3 (by decide) (hts (.fieldLink RX6 22 "MayRings$Valley" "quarrels" "[I") (List.mem_of_getElem? (i := 9) rfl)) (fun _ h9 => h9) rfl hin rfl (by decide +kernel) rfl rfl (Nat.le_of_ble_eq_true rfl) dX6_init_33 (fun H locs hP hD hS => ?_)
  have hP : va_P (dC, dI) vwCl [(h0, .inr (6, [.ref q425, .ref q426, .ref q427, .ref q428, .null, .null, .int 0, .int 0, .int 0, .int 0])), (q425, .inl (cJ, 9, .inr (.inl (fun _ => 0)))), (q426, .inl (cI, 9, .inl (fun _ => 0))), (q427, .inl (cI, 9, .inl (fun _ => 0))), (q428, .inl (cI, 9, .inl (fun _ => 0)))] H := hP
  have hD : va_D A [(h0, .inr (6, [.ref q425, .ref q426, .ref q427, .ref q428, .null, .null, .int 0, .int 0, .int 0, .int 0])), (q425, .inl (cJ, 9, .inr (.inl (fun _ => 0)))), (q426, .inl (cI, 9, .inl (fun _ => 0))), (q427, .inl (cI, 9, .inl (fun _ => 0))), (q428, .inl (cI, 9, .inl (fun _ => 0)))] := hD
  refine lv_aload_n hx hb dX6_init_36 rfl (lv_at hl 0 rfl) ?_
  refine lv_bipush (v := 81) hx hb dX6_init_37 (by decide) ?_
  refine nw_arr (atype := .int) (N' := 81) (a0 := (81, .inl (fun _ => 0))) (ty := .int) hx hb (hts (.arrayClass .int) (List.mem_of_getElem? (i := 6) rfl)) rfl hK hP hD hS hA 1 rfl (fun _ => rfl) (by decide +kernel) (by decide +kernel) (by decide +kernel) (Nat.le_of_ble_eq_true rfl) (Nat.le_of_ble_eq_true rfl) dX6_init_39 (fun q429 H hP hD hS => ?_)
  refine W.widen (k := 5) (n := 117) (Nat.le_of_ble_eq_true rfl) (Nat.le_of_ble_eq_true rfl) ?_
  have hP : va_P (dC, dI) vwCl [(h0, .inr (6, [.ref q425, .ref q426, .ref q427, .ref q428, .null, .null, .int 0, .int 0, .int 0, .int 0])), (q425, .inl (cJ, 9, .inr (.inl (fun _ => 0)))), (q426, .inl (cI, 9, .inl (fun _ => 0))), (q427, .inl (cI, 9, .inl (fun _ => 0))), (q428, .inl (cI, 9, .inl (fun _ => 0))), (q429, .inl (cI, 81, .inl (fun _ => 0)))] H := hP
  have hD : va_D A [(h0, .inr (6, [.ref q425, .ref q426, .ref q427, .ref q428, .null, .null, .int 0, .int 0, .int 0, .int 0])), (q425, .inl (cJ, 9, .inr (.inl (fun _ => 0)))), (q426, .inl (cI, 9, .inl (fun _ => 0))), (q427, .inl (cI, 9, .inl (fun _ => 0))), (q428, .inl (cI, 9, .inl (fun _ => 0))), (q429, .inl (cI, 81, .inl (fun _ => 0)))] := hD
  refine va_putF (D := (dC, dI)) (ci := 6) (v := .ref q429) (ty := .array .int) (C := RX6) (T := TX6) (N := 10) hx hb hts hinX6 tyX6 tyX6_ok nmX6 hown hK hP hD hS 0 rfl rfl 4 (by decide) (hts (.fieldLink RX6 25 "MayRings$Valley" "worths" "[I") (List.mem_of_getElem? (i := 10) rfl)) (fun _ h9 => h9) rfl hin rfl (by decide +kernel) rfl rfl (Nat.le_of_ble_eq_true rfl) dX6_init_41 (fun H locs hP hD hS => ?_)
  have hP : va_P (dC, dI) vwCl [(h0, .inr (6, [.ref q425, .ref q426, .ref q427, .ref q428, .ref q429, .null, .int 0, .int 0, .int 0, .int 0])), (q425, .inl (cJ, 9, .inr (.inl (fun _ => 0)))), (q426, .inl (cI, 9, .inl (fun _ => 0))), (q427, .inl (cI, 9, .inl (fun _ => 0))), (q428, .inl (cI, 9, .inl (fun _ => 0))), (q429, .inl (cI, 81, .inl (fun _ => 0)))] H := hP
  have hD : va_D A [(h0, .inr (6, [.ref q425, .ref q426, .ref q427, .ref q428, .ref q429, .null, .int 0, .int 0, .int 0, .int 0])), (q425, .inl (cJ, 9, .inr (.inl (fun _ => 0)))), (q426, .inl (cI, 9, .inl (fun _ => 0))), (q427, .inl (cI, 9, .inl (fun _ => 0))), (q428, .inl (cI, 9, .inl (fun _ => 0))), (q429, .inl (cI, 81, .inl (fun _ => 0)))] := hD
  refine lv_aload_n hx hb dX6_init_44 rfl (lv_at hl 0 rfl) ?_
  refine va_new (ci := 1) (fs := [.null, .null, .null, .int 0, .int 0, .int 0]) (C := RX1) (T := TX1) (N := 6) hx hb hts hinX1 tyX1 tyX1_ok hown (hts (.classLink RX6 28 RX1) (List.mem_of_getElem? (i := 11) rfl)) (hts (.instantiable RX1 6) (List.mem_of_getElem? (i := 12) rfl)) (hts (.initialized RX1) (List.mem_of_getElem? (i := 13) rfl)) hK hP hD hS hA rfl (by decide) (Nat.le_of_ble_eq_true rfl) (Nat.le_of_ble_eq_true rfl) dX6_init_45 (fun q430 H hP hD hS => ?_)
  refine W.widen (k := 6) (n := 123) (Nat.le_of_ble_eq_true rfl) (Nat.le_of_ble_eq_true rfl) ?_
  have hP : va_P (dC, dI) vwCl [(h0, .inr (6, [.ref q425, .ref q426, .ref q427, .ref q428, .ref q429, .null, .int 0, .int 0, .int 0, .int 0])), (q425, .inl (cJ, 9, .inr (.inl (fun _ => 0)))), (q426, .inl (cI, 9, .inl (fun _ => 0))), (q427, .inl (cI, 9, .inl (fun _ => 0))), (q428, .inl (cI, 9, .inl (fun _ => 0))), (q429, .inl (cI, 81, .inl (fun _ => 0))), (q430, .inr (1, [.null, .null, .null, .int 0, .int 0, .int 0]))] H := hP
  have hD : va_D A [(h0, .inr (6, [.ref q425, .ref q426, .ref q427, .ref q428, .ref q429, .null, .int 0, .int 0, .int 0, .int 0])), (q425, .inl (cJ, 9, .inr (.inl (fun _ => 0)))), (q426, .inl (cI, 9, .inl (fun _ => 0))), (q427, .inl (cI, 9, .inl (fun _ => 0))), (q428, .inl (cI, 9, .inl (fun _ => 0))), (q429, .inl (cI, 81, .inl (fun _ => 0))), (q430, .inr (1, [.null, .null, .null, .int 0, .int 0, .int 0]))] := hD
  refine lv_dup hx hb dX6_init_48 rfl ?_
  have hPc := hP.sub (ws' := [(q430, .inr (1, [.null, .null, .null, .int 0, .int 0, .int 0]))]) [6] rfl
  have hDc := hD.sub (ws' := [(q430, .inr (1, [.null, .null, .null, .int 0, .int 0, .int 0]))]) [6] (by decide) rfl
  have hFc := va_free (wc := [(q430, .inr (1, [.null, .null, .null, .int 0, .int 0, .int 0]))]) hD hS hA [6] rfl
  refine va_callv (va_runI (As := []) (rest := [.ref q430, .ref h0]) ⟨hx, hb, hml, hown, hts⟩ (c_X1_init l dC dI cB cI cJ cZ cP q430 H.size) (cwI 0 hts (gd_mono k_X1_init (fun _ h => List.mem_cons_of_mem _ (List.mem_append_right _ (List.mem_append_right _ (List.mem_append_right _ (List.mem_append_left _ h)))))) rfl rfl rfl (hts (.initialized RX1) (List.mem_of_getElem? (i := 13) rfl)) (hts (.methodLink RX6 30 yX1_init) (List.mem_of_getElem? (i := 14) rfl)) (hts (.instanceMethod yX1_init) (List.mem_of_getElem? (i := 15) rfl)) rfl (by decide +kernel) ⟨Nat.le_of_ble_eq_true rfl, Nat.le_of_ble_eq_true rfl⟩) ⟨fun a U g mk q => by obtain ⟨q0, q1, qP, qK, qD⟩ := q; exact ⟨q0, q1, qP, va_K.moved (u := U) (U := U.calling g mk a) (Vm.Alike.refl U.vm) qK, qD⟩, fun U hU hW => ⟨rfl, by rw [hU], by rw [hU]; exact hPc, va_K.moved hW.alike hK, hDc.weaken (fun _ _ _ _ => trivial)⟩⟩ rfl rfl hl.1 rfl (lv_room (Nat.le_of_ble_eq_true rfl)) dX6_init_49 ⟨Nat.le_of_ble_eq_true rfl, Nat.le_of_ble_eq_true rfl⟩) hS (fun q _ h => hFc q h) hFc (fun u t H1 locs ht hvm hw hB hz1 hk1 hS => ?_)
  obtain ⟨q434, q435, q436, hP1, hD1⟩ := hB
  rw [ht] at hP1
  obtain ⟨hP, hD⟩ := va_join (wr := [(h0, .inr (6, [.ref q425, .ref q426, .ref q427, .ref q428, .ref q429, .null, .int 0, .int 0, .int 0, .int 0])), (q425, .inl (cJ, 9, .inr (.inl (fun _ => 0)))), (q426, .inl (cI, 9, .inl (fun _ => 0))), (q427, .inl (cI, 9, .inl (fun _ => 0))), (q428, .inl (cI, 9, .inl (fun _ => 0))), (q429, .inl (cI, 81, .inl (fun _ => 0)))]) (w1 := [(q430, .inr (1, [.ref q436, .ref q434, .ref q435, .int 3, .int 0, .int 0])), (q434, .inl (cI, 40, .inl (fun _ => 0))), (q435, .inl (cI, 16, .inl (fun _ => 0))), (q436, .inl (cI, 360, .inl (upd (upd (upd (fun _ => 0) (0 : Int32).toNatClampNeg (-14)) (1 : Int32).toNatClampNeg 99) (2 : Int32).toNatClampNeg (-23))))]) hP hD [6] [0, 1, 2, 3, 4, 5] rfl rfl (by decide) (by decide) hk1 hFc hP1 hD1
  generalize H1 = H at hP hS ⊢
  have hP : va_P (dC, dI) vwCl [(h0, .inr (6, [.ref q425, .ref q426, .ref q427, .ref q428, .ref q429, .null, .int 0, .int 0, .int 0, .int 0])), (q425, .inl (cJ, 9, .inr (.inl (fun _ => 0)))), (q426, .inl (cI, 9, .inl (fun _ => 0))), (q427, .inl (cI, 9, .inl (fun _ => 0))), (q428, .inl (cI, 9, .inl (fun _ => 0))), (q429, .inl (cI, 81, .inl (fun _ => 0))), (q430, .inr (1, [.ref q436, .ref q434, .ref q435, .int 3, .int 0, .int 0])), (q434, .inl (cI, 40, .inl (fun _ => 0))), (q435, .inl (cI, 16, .inl (fun _ => 0))), (q436, .inl (cI, 360, .inl (upd (upd (upd (fun _ => 0) (0 : Int32).toNatClampNeg (-14)) (1 : Int32).toNatClampNeg 99) (2 : Int32).toNatClampNeg (-23))))] H := hP
  have hD : va_D A [(h0, .inr (6, [.ref q425, .ref q426, .ref q427, .ref q428, .ref q429, .null, .int 0, .int 0, .int 0, .int 0])), (q425, .inl (cJ, 9, .inr (.inl (fun _ => 0)))), (q426, .inl (cI, 9, .inl (fun _ => 0))), (q427, .inl (cI, 9, .inl (fun _ => 0))), (q428, .inl (cI, 9, .inl (fun _ => 0))), (q429, .inl (cI, 81, .inl (fun _ => 0))), (q430, .inr (1, [.ref q436, .ref q434, .ref q435, .int 3, .int 0, .int 0])), (q434, .inl (cI, 40, .inl (fun _ => 0))), (q435, .inl (cI, 16, .inl (fun _ => 0))), (q436, .inl (cI, 360, .inl (upd (upd (upd (fun _ => 0) (0 : Int32).toNatClampNeg (-14)) (1 : Int32).toNatClampNeg 99) (2 : Int32).toNatClampNeg (-23))))] := hD
  refine W.widen (k := 9) (n := 539) (Nat.le_of_ble_eq_true rfl) (Nat.le_of_ble_eq_true rfl) ?_
  refine va_putF (D := (dC, dI)) (ci := 6) (v := .ref q430) (ty := .object "MayRings$Law") (C := RX6) (T := TX6) (N := 10) hx hb hts hinX6 tyX6 tyX6_ok nmX6 hown hK hP hD hS 0 rfl rfl 5 (by decide) (hts (.fieldLink RX6 31 "MayRings$Valley" "law" "LMayRings$Law;") (List.mem_of_getElem? (i := 16) rfl)) (fun _ h9 => h9) rfl hin rfl (by decide +kernel) rfl rfl (Nat.le_of_ble_eq_true rfl) dX6_init_52 (fun H locs hP hD hS => ?_)
  have hP : va_P (dC, dI) vwCl [(h0, .inr (6, [.ref q425, .ref q426, .ref q427, .ref q428, .ref q429, .ref q430, .int 0, .int 0, .int 0, .int 0])), (q425, .inl (cJ, 9, .inr (.inl (fun _ => 0)))), (q426, .inl (cI, 9, .inl (fun _ => 0))), (q427, .inl (cI, 9, .inl (fun _ => 0))), (q428, .inl (cI, 9, .inl (fun _ => 0))), (q429, .inl (cI, 81, .inl (fun _ => 0))), (q430, .inr (1, [.ref q436, .ref q434, .ref q435, .int 3, .int 0, .int 0])), (q434, .inl (cI, 40, .inl (fun _ => 0))), (q435, .inl (cI, 16, .inl (fun _ => 0))), (q436, .inl (cI, 360, .inl (upd (upd (upd (fun _ => 0) (0 : Int32).toNatClampNeg (-14)) (1 : Int32).toNatClampNeg 99) (2 : Int32).toNatClampNeg (-23))))] H := hP
  have hD : va_D A [(h0, .inr (6, [.ref q425, .ref q426, .ref q427, .ref q428, .ref q429, .ref q430, .int 0, .int 0, .int 0, .int 0])), (q425, .inl (cJ, 9, .inr (.inl (fun _ => 0)))), (q426, .inl (cI, 9, .inl (fun _ => 0))), (q427, .inl (cI, 9, .inl (fun _ => 0))), (q428, .inl (cI, 9, .inl (fun _ => 0))), (q429, .inl (cI, 81, .inl (fun _ => 0))), (q430, .inr (1, [.ref q436, .ref q434, .ref q435, .int 3, .int 0, .int 0])), (q434, .inl (cI, 40, .inl (fun _ => 0))), (q435, .inl (cI, 16, .inl (fun _ => 0))), (q436, .inl (cI, 360, .inl (upd (upd (upd (fun _ => 0) (0 : Int32).toNatClampNeg (-14)) (1 : Int32).toNatClampNeg 99) (2 : Int32).toNatClampNeg (-23))))] := hD
  refine lv_aload_n hx hb dX6_init_55 rfl (lv_at hl 0 rfl) ?_
  refine lv_iconst (v := 0) hx hb dX6_init_56 (by decide) ?_
  refine va_put (D := (dC, dI)) (ci := 6) (v := .int 0) (ty := .int) (C := RX6) (T := TX6) (N := 10) hx hb hts hinX6 tyX6 tyX6_ok nmX6 hown hK hP hD hS 0 rfl rfl 6 (by decide) (hts (.fieldLink RX6 35 "MayRings$Valley" "houses" "I") (List.mem_of_getElem? (i := 17) rfl)) (fun _ h9 => h9) rfl (by decide +kernel) rfl rfl (Nat.le_of_ble_eq_true rfl) dX6_init_57 (fun H locs hP hD hS => ?_)
  have hP : va_P (dC, dI) vwCl [(h0, .inr (6, [.ref q425, .ref q426, .ref q427, .ref q428, .ref q429, .ref q430, .int 0, .int 0, .int 0, .int 0])), (q425, .inl (cJ, 9, .inr (.inl (fun _ => 0)))), (q426, .inl (cI, 9, .inl (fun _ => 0))), (q427, .inl (cI, 9, .inl (fun _ => 0))), (q428, .inl (cI, 9, .inl (fun _ => 0))), (q429, .inl (cI, 81, .inl (fun _ => 0))), (q430, .inr (1, [.ref q436, .ref q434, .ref q435, .int 3, .int 0, .int 0])), (q434, .inl (cI, 40, .inl (fun _ => 0))), (q435, .inl (cI, 16, .inl (fun _ => 0))), (q436, .inl (cI, 360, .inl (upd (upd (upd (fun _ => 0) (0 : Int32).toNatClampNeg (-14)) (1 : Int32).toNatClampNeg 99) (2 : Int32).toNatClampNeg (-23))))] H := hP
  have hD : va_D A [(h0, .inr (6, [.ref q425, .ref q426, .ref q427, .ref q428, .ref q429, .ref q430, .int 0, .int 0, .int 0, .int 0])), (q425, .inl (cJ, 9, .inr (.inl (fun _ => 0)))), (q426, .inl (cI, 9, .inl (fun _ => 0))), (q427, .inl (cI, 9, .inl (fun _ => 0))), (q428, .inl (cI, 9, .inl (fun _ => 0))), (q429, .inl (cI, 81, .inl (fun _ => 0))), (q430, .inr (1, [.ref q436, .ref q434, .ref q435, .int 3, .int 0, .int 0])), (q434, .inl (cI, 40, .inl (fun _ => 0))), (q435, .inl (cI, 16, .inl (fun _ => 0))), (q436, .inl (cI, 360, .inl (upd (upd (upd (fun _ => 0) (0 : Int32).toNatClampNeg (-14)) (1 : Int32).toNatClampNeg 99) (2 : Int32).toNatClampNeg (-23))))] := hD
  refine lv_aload_n hx hb dX6_init_60 rfl (lv_at hl 0 rfl) ?_
  refine lv_iconst (v := 0) hx hb dX6_init_61 (by decide) ?_
  refine va_put (D := (dC, dI)) (ci := 6) (v := .int 0) (ty := .int) (C := RX6) (T := TX6) (N := 10) hx hb hts hinX6 tyX6 tyX6_ok nmX6 hown hK hP hD hS 0 rfl rfl 7 (by decide) (hts (.fieldLink RX6 39 "MayRings$Valley" "quarrelCount" "I") (List.mem_of_getElem? (i := 18) rfl)) (fun _ h9 => h9) rfl (by decide +kernel) rfl rfl (Nat.le_of_ble_eq_true rfl) dX6_init_62 (fun H locs hP hD hS => ?_)
  have hP : va_P (dC, dI) vwCl [(h0, .inr (6, [.ref q425, .ref q426, .ref q427, .ref q428, .ref q429, .ref q430, .int 0, .int 0, .int 0, .int 0])), (q425, .inl (cJ, 9, .inr (.inl (fun _ => 0)))), (q426, .inl (cI, 9, .inl (fun _ => 0))), (q427, .inl (cI, 9, .inl (fun _ => 0))), (q428, .inl (cI, 9, .inl (fun _ => 0))), (q429, .inl (cI, 81, .inl (fun _ => 0))), (q430, .inr (1, [.ref q436, .ref q434, .ref q435, .int 3, .int 0, .int 0])), (q434, .inl (cI, 40, .inl (fun _ => 0))), (q435, .inl (cI, 16, .inl (fun _ => 0))), (q436, .inl (cI, 360, .inl (upd (upd (upd (fun _ => 0) (0 : Int32).toNatClampNeg (-14)) (1 : Int32).toNatClampNeg 99) (2 : Int32).toNatClampNeg (-23))))] H := hP
  have hD : va_D A [(h0, .inr (6, [.ref q425, .ref q426, .ref q427, .ref q428, .ref q429, .ref q430, .int 0, .int 0, .int 0, .int 0])), (q425, .inl (cJ, 9, .inr (.inl (fun _ => 0)))), (q426, .inl (cI, 9, .inl (fun _ => 0))), (q427, .inl (cI, 9, .inl (fun _ => 0))), (q428, .inl (cI, 9, .inl (fun _ => 0))), (q429, .inl (cI, 81, .inl (fun _ => 0))), (q430, .inr (1, [.ref q436, .ref q434, .ref q435, .int 3, .int 0, .int 0])), (q434, .inl (cI, 40, .inl (fun _ => 0))), (q435, .inl (cI, 16, .inl (fun _ => 0))), (q436, .inl (cI, 360, .inl (upd (upd (upd (fun _ => 0) (0 : Int32).toNatClampNeg (-14)) (1 : Int32).toNatClampNeg 99) (2 : Int32).toNatClampNeg (-23))))] := hD
  refine lv_aload_n hx hb dX6_init_65 rfl (lv_at hl 0 rfl) ?_
  refine lv_iconst (v := 0) hx hb dX6_init_66 (by decide) ?_
  refine va_put (D := (dC, dI)) (ci := 6) (v := .int 0) (ty := .int) (C := RX6) (T := TX6) (N := 10) hx hb hts hinX6 tyX6 tyX6_ok nmX6 hown hK hP hD hS 0 rfl rfl 8 (by decide) (hts (.fieldLink RX6 42 "MayRings$Valley" "wishCount" "I") (List.mem_of_getElem? (i := 19) rfl)) (fun _ h9 => h9) rfl (by decide +kernel) rfl rfl (Nat.le_of_ble_eq_true rfl) dX6_init_67 (fun H locs hP hD hS => ?_)
  have hP : va_P (dC, dI) vwCl [(h0, .inr (6, [.ref q425, .ref q426, .ref q427, .ref q428, .ref q429, .ref q430, .int 0, .int 0, .int 0, .int 0])), (q425, .inl (cJ, 9, .inr (.inl (fun _ => 0)))), (q426, .inl (cI, 9, .inl (fun _ => 0))), (q427, .inl (cI, 9, .inl (fun _ => 0))), (q428, .inl (cI, 9, .inl (fun _ => 0))), (q429, .inl (cI, 81, .inl (fun _ => 0))), (q430, .inr (1, [.ref q436, .ref q434, .ref q435, .int 3, .int 0, .int 0])), (q434, .inl (cI, 40, .inl (fun _ => 0))), (q435, .inl (cI, 16, .inl (fun _ => 0))), (q436, .inl (cI, 360, .inl (upd (upd (upd (fun _ => 0) (0 : Int32).toNatClampNeg (-14)) (1 : Int32).toNatClampNeg 99) (2 : Int32).toNatClampNeg (-23))))] H := hP
  have hD : va_D A [(h0, .inr (6, [.ref q425, .ref q426, .ref q427, .ref q428, .ref q429, .ref q430, .int 0, .int 0, .int 0, .int 0])), (q425, .inl (cJ, 9, .inr (.inl (fun _ => 0)))), (q426, .inl (cI, 9, .inl (fun _ => 0))), (q427, .inl (cI, 9, .inl (fun _ => 0))), (q428, .inl (cI, 9, .inl (fun _ => 0))), (q429, .inl (cI, 81, .inl (fun _ => 0))), (q430, .inr (1, [.ref q436, .ref q434, .ref q435, .int 3, .int 0, .int 0])), (q434, .inl (cI, 40, .inl (fun _ => 0))), (q435, .inl (cI, 16, .inl (fun _ => 0))), (q436, .inl (cI, 360, .inl (upd (upd (upd (fun _ => 0) (0 : Int32).toNatClampNeg (-14)) (1 : Int32).toNatClampNeg 99) (2 : Int32).toNatClampNeg (-23))))] := hD
  refine lv_aload_n hx hb dX6_init_70 rfl (lv_at hl 0 rfl) ?_
  refine lv_iconst (v := 0) hx hb dX6_init_71 (by decide) ?_
  refine va_put (D := (dC, dI)) (ci := 6) (v := .int 0) (ty := .boolean) (C := RX6) (T := TX6) (N := 10) hx hb hts hinX6 tyX6 tyX6_ok nmX6 hown hK hP hD hS 0 rfl rfl 9 (by decide) (hts (.fieldLink RX6 45 "MayRings$Valley" "street" "Z") (List.mem_of_getElem? (i := 20) rfl)) (fun _ h9 => h9) rfl (by decide +kernel) rfl rfl (Nat.le_of_ble_eq_true rfl) dX6_init_72 (fun H locs hP hD hS => ?_)
  have hP : va_P (dC, dI) vwCl [(h0, .inr (6, [.ref q425, .ref q426, .ref q427, .ref q428, .ref q429, .ref q430, .int 0, .int 0, .int 0, .int 0])), (q425, .inl (cJ, 9, .inr (.inl (fun _ => 0)))), (q426, .inl (cI, 9, .inl (fun _ => 0))), (q427, .inl (cI, 9, .inl (fun _ => 0))), (q428, .inl (cI, 9, .inl (fun _ => 0))), (q429, .inl (cI, 81, .inl (fun _ => 0))), (q430, .inr (1, [.ref q436, .ref q434, .ref q435, .int 3, .int 0, .int 0])), (q434, .inl (cI, 40, .inl (fun _ => 0))), (q435, .inl (cI, 16, .inl (fun _ => 0))), (q436, .inl (cI, 360, .inl (upd (upd (upd (fun _ => 0) (0 : Int32).toNatClampNeg (-14)) (1 : Int32).toNatClampNeg 99) (2 : Int32).toNatClampNeg (-23))))] H := hP
  have hD : va_D A [(h0, .inr (6, [.ref q425, .ref q426, .ref q427, .ref q428, .ref q429, .ref q430, .int 0, .int 0, .int 0, .int 0])), (q425, .inl (cJ, 9, .inr (.inl (fun _ => 0)))), (q426, .inl (cI, 9, .inl (fun _ => 0))), (q427, .inl (cI, 9, .inl (fun _ => 0))), (q428, .inl (cI, 9, .inl (fun _ => 0))), (q429, .inl (cI, 81, .inl (fun _ => 0))), (q430, .inr (1, [.ref q436, .ref q434, .ref q435, .int 3, .int 0, .int 0])), (q434, .inl (cI, 40, .inl (fun _ => 0))), (q435, .inl (cI, 16, .inl (fun _ => 0))), (q436, .inl (cI, 360, .inl (upd (upd (upd (fun _ => 0) (0 : Int32).toNatClampNeg (-14)) (1 : Int32).toNatClampNeg 99) (2 : Int32).toNatClampNeg (-23))))] := hD
  refine lv_aload_n hx hb dX6_init_75 rfl (lv_at hl 0 rfl) ?_
  refine va_get (D := (dC, dI)) (ci := 6) (v := .ref q427) (C := RX6) (T := TX6) (N := 10) hx hb hts hinX6 hown hK hP 0 rfl rfl 2 (by decide) (hts (.fieldLink RX6 19 "MayRings$Valley" "bears" "[I") (List.mem_of_getElem? (i := 8) rfl)) (fun _ h9 => h9) rfl dX6_init_76 ?_
  refine lv_sipush (v := 999) hx hb dX6_init_79 (by decide) ?_
  have hPc := hP.sub (ws' := [(q427, .inl (cI, 9, .inl (fun _ => 0)))]) [3] rfl
  have hDc := hD.sub (ws' := [(q427, .inl (cI, 9, .inl (fun _ => 0)))]) [3] (by decide) rfl
  have hFc := va_free (wc := [(q427, .inl (cI, 9, .inl (fun _ => 0)))]) hD hS hA [3] rfl
  refine va_callv (va_runS (As := [.ref q427, .int 999]) (rest := []) ⟨hx, hb, hml, hown, hts⟩ (c_fill1 l dC dI cB cI cJ cZ cP q427 9 ((fun _ => 0)) 999 ((by decide)) H.size) (va_cwS 2 hts (gd_S (List.mem_of_getElem? (i := 21) rfl) (List.mem_of_getElem? (i := 22) rfl) (List.mem_of_getElem? (i := 23) rfl) (gd_mono k_fill1 (fun _ h => List.mem_cons_of_mem _ (List.mem_append_right _ (List.mem_append_right _ (List.mem_append_right _ (List.mem_append_right _ (List.mem_append_left _ h)))))))) rfl rfl rfl (by decide +kernel) ⟨Nat.le_of_ble_eq_true rfl, Nat.le_of_ble_eq_true rfl⟩) ⟨fun a U g mk q => by obtain ⟨q0, q1, qP, qK, qD⟩ := q; exact ⟨q0, q1, qP, va_K.moved (u := U) (U := U.calling g mk a) (Vm.Alike.refl U.vm) qK, qD⟩, fun U hU hW => ⟨rfl, by rw [hU], by rw [hU]; exact hPc, va_K.moved hW.alike hK, hDc.weaken (fun _ _ _ _ => trivial)⟩⟩ rfl rfl hl.1 rfl (lv_room (Nat.le_of_ble_eq_true rfl)) dX6_init_82 ⟨Nat.le_of_ble_eq_true rfl, Nat.le_of_ble_eq_true rfl⟩) hS (fun q _ h => hFc q h) hFc (fun u t H1 locs ht hvm hw hB hz1 hk1 hS => ?_)
  obtain ⟨hP1, hD1⟩ := hB
  rw [ht] at hP1
  obtain ⟨hP, hD⟩ := va_join (wr := [(h0, .inr (6, [.ref q425, .ref q426, .ref q427, .ref q428, .ref q429, .ref q430, .int 0, .int 0, .int 0, .int 0])), (q425, .inl (cJ, 9, .inr (.inl (fun _ => 0)))), (q426, .inl (cI, 9, .inl (fun _ => 0))), (q428, .inl (cI, 9, .inl (fun _ => 0))), (q429, .inl (cI, 81, .inl (fun _ => 0))), (q430, .inr (1, [.ref q436, .ref q434, .ref q435, .int 3, .int 0, .int 0])), (q434, .inl (cI, 40, .inl (fun _ => 0))), (q435, .inl (cI, 16, .inl (fun _ => 0))), (q436, .inl (cI, 360, .inl (upd (upd (upd (fun _ => 0) (0 : Int32).toNatClampNeg (-14)) (1 : Int32).toNatClampNeg 99) (2 : Int32).toNatClampNeg (-23))))]) (w1 := [(q427, .inl (cI, 9, .inl (fun _ => 999)))]) hP hD [3] [0, 1, 2, 4, 5, 6, 7, 8, 9] rfl rfl (by decide) (by decide) hk1 hFc hP1 hD1
  generalize H1 = H at hP hS ⊢
  have hP : va_P (dC, dI) vwCl [(h0, .inr (6, [.ref q425, .ref q426, .ref q427, .ref q428, .ref q429, .ref q430, .int 0, .int 0, .int 0, .int 0])), (q425, .inl (cJ, 9, .inr (.inl (fun _ => 0)))), (q426, .inl (cI, 9, .inl (fun _ => 0))), (q428, .inl (cI, 9, .inl (fun _ => 0))), (q429, .inl (cI, 81, .inl (fun _ => 0))), (q430, .inr (1, [.ref q436, .ref q434, .ref q435, .int 3, .int 0, .int 0])), (q434, .inl (cI, 40, .inl (fun _ => 0))), (q435, .inl (cI, 16, .inl (fun _ => 0))), (q436, .inl (cI, 360, .inl (upd (upd (upd (fun _ => 0) (0 : Int32).toNatClampNeg (-14)) (1 : Int32).toNatClampNeg 99) (2 : Int32).toNatClampNeg (-23)))), (q427, .inl (cI, 9, .inl (fun _ => 999)))] H := hP
  have hD : va_D A [(h0, .inr (6, [.ref q425, .ref q426, .ref q427, .ref q428, .ref q429, .ref q430, .int 0, .int 0, .int 0, .int 0])), (q425, .inl (cJ, 9, .inr (.inl (fun _ => 0)))), (q426, .inl (cI, 9, .inl (fun _ => 0))), (q428, .inl (cI, 9, .inl (fun _ => 0))), (q429, .inl (cI, 81, .inl (fun _ => 0))), (q430, .inr (1, [.ref q436, .ref q434, .ref q435, .int 3, .int 0, .int 0])), (q434, .inl (cI, 40, .inl (fun _ => 0))), (q435, .inl (cI, 16, .inl (fun _ => 0))), (q436, .inl (cI, 360, .inl (upd (upd (upd (fun _ => 0) (0 : Int32).toNatClampNeg (-14)) (1 : Int32).toNatClampNeg 99) (2 : Int32).toNatClampNeg (-23)))), (q427, .inl (cI, 9, .inl (fun _ => 999)))] := hD
  have hP9 := hP.sub (ws' := [(h0, .inr (6, [.ref q425, .ref q426, .ref q427, .ref q428, .ref q429, .ref q430, .int 0, .int 0, .int 0, .int 0])), (q425, .inl (cJ, 9, .inr (.inl (fun _ => 0)))), (q426, .inl (cI, 9, .inl (fun _ => 0))), (q428, .inl (cI, 9, .inl (fun _ => 0))), (q429, .inl (cI, 81, .inl (fun _ => 0))), (q430, .inr (1, [.ref q436, .ref q434, .ref q435, .int 3, .int 0, .int 0])), (q434, .inl (cI, 40, .inl (fun _ => 0))), (q435, .inl (cI, 16, .inl (fun _ => 0))), (q436, .inl (cI, 360, .inl (upd (upd (upd (fun _ => 0) (0 : Int32).toNatClampNeg (-14)) (1 : Int32).toNatClampNeg 99) (2 : Int32).toNatClampNeg (-23)))), (q427, .inl (cI, 9, .inl (fun _ => 999)))]) [0, 1, 2, 3, 4, 5, 6, 7, 8, 9] rfl
  have hD9 := hD.sub (ws' := [(h0, .inr (6, [.ref q425, .ref q426, .ref q427, .ref q428, .ref q429, .ref q430, .int 0, .int 0, .int 0, .int 0])), (q425, .inl (cJ, 9, .inr (.inl (fun _ => 0)))), (q426, .inl (cI, 9, .inl (fun _ => 0))), (q428, .inl (cI, 9, .inl (fun _ => 0))), (q429, .inl (cI, 81, .inl (fun _ => 0))), (q430, .inr (1, [.ref q436, .ref q434, .ref q435, .int 3, .int 0, .int 0])), (q434, .inl (cI, 40, .inl (fun _ => 0))), (q435, .inl (cI, 16, .inl (fun _ => 0))), (q436, .inl (cI, 360, .inl (upd (upd (upd (fun _ => 0) (0 : Int32).toNatClampNeg (-14)) (1 : Int32).toNatClampNeg 99) (2 : Int32).toNatClampNeg (-23)))), (q427, .inl (cI, 9, .inl (fun _ => 999)))]) [0, 1, 2, 3, 4, 5, 6, 7, 8, 9] (by decide) rfl
  refine W.widen (k := 9) (n := 539) (Nat.le_of_ble_eq_true rfl) (Nat.le_of_ble_eq_true rfl) ?_
  exact W.vret hx hb hr (fun t ht hW => ⟨⟨(), rfl, trivial, ⟨q425, q426, q428, q429, q430, q434, q435, q436, q427, by rw [ht]; exact hP9, hD9⟩⟩, hS.F ht⟩) hS.2.2 dX6_init_85
def v_X5_withLetter : List Cond := Cond.code yX5_withLetter cX5_withLetter 3 (some .long) :: ([] ++ ([]))
theorem k_X5_withLetter : GoodIn lw_tbl v_X5_withLetter := gd_c (List.mem_of_getElem? (i := 306) (by decide +kernel)) rfl (goodIn_app (gd_nil) (gd_nil))
set_option maxHeartbeats 600000 in
set_option maxRecDepth 100000 in
theorem c_X5_withLetter (l : Launch) (dC : Nat → ClassId) (dI : Nat → Nat → Nat) (cB cI cJ cZ cP : ClassId) (g0 : Nat → Int64) (h0 : Nat) (p0 : Int32) (sz : Nat) : Met l yX5_withLetter v_X5_withLetter ({ frames := 0, cells := 0, slots := 0, locals := 0 }) (va_Pc [.long (g0 ((nI h0) : Int32).toNatClampNeg), .int p0] (fun U => U.heap.size = sz ∧ va_P (dC, dI) vwCl [] U.heap ∧ va_K (dC, dI) vwCl (ty5 cB cI cJ cZ cP) U ∧ va_D (fun _ => True) [])) (va_Ql (fun (r : Int64) (_ : Unit) => r = (((g0 ((nI h0) : Int32).toNatClampNeg) <<< ((5 : Int32).toInt64 &&& 63)) ||| (((p0 - 97) + 1).toInt64))) (fun _ t => va_P (dC, dI) vwCl [] t.heap ∧ va_D (va_A [] sz) []) (va_A [] sz)) 0 0 (va_A [] sz) := by
  refine Met.ofW (cc := cX5_withLetter) (maxL := 3) (ret := (some .long)) (by decide) rfl ?_
  intro p e s m args below meth c s₁ B hml hv
  obtain ⟨rfl, hsz, hP, hK, hD0⟩ := hv
  have hx := B.exec
  have hb := B.bytes
  have hr := B.returns
  have hts := atoms_spec (ws := v_X5_withLetter) B.pre
  have hown : s.vm.findClass RX5 = some m.cls := findClass_of_methodNamed B.named
  have hlocks := B.notSynchronized
  subst hsz
  have hD := hD0.self (sz := s.heap.size)
  generalize hAe : va_A [] s.heap.size = A at hD ⊢
  have hA : ∀ q : Nat, s.heap.size ≤ q → A q := fun q h => by rw [← hAe]; exact Or.inr h
  have hP : va_P (dC, dI) vwCl [] s.heap := hP
  have hl := lv_entry ([.long (g0 ((nI h0) : Int32).toNatClampNeg), .int p0]) (n := 3) (Nat.le_of_ble_eq_true rfl)
  rw [lg_entry_eq]
  generalize (lg_sl ([.long (g0 ((nI h0) : Int32).toNatClampNeg), .int p0]) ++ List.replicate (3 - (lg_sl ([.long (g0 ((nI h0) : Int32).toNatClampNeg), .int p0])).length) Slot.unset).toArray = ls at hl ⊢
  have hl : lv_has ls 3 [(0, .long (g0 ((nI h0) : Int32).toNatClampNeg)), (2, .int p0)] := hl
  refine W_gen (A := A) hP (fun H locs hP hS => ?_)
  refine lv_lload_n hx hb dX5_withLetter_0 rfl (lv_at hl 0 rfl) ?_
  refine lv_iconst (v := 5) hx hb dX5_withLetter_1 (by decide) ?_
  refine lv_lshl (v := ((g0 ((nI h0) : Int32).toNatClampNeg) <<< ((5 : Int32).toInt64 &&& 63))) hx hb dX5_withLetter_2 rfl ?_
  refine lv_iload_n hx hb dX5_withLetter_3 rfl (lv_at hl 1 rfl) ?_
  refine lv_bipush (v := 97) hx hb dX5_withLetter_4 (by decide) ?_
  refine lv_isub hx hb dX5_withLetter_6 ?_
  refine lv_iconst (v := 1) hx hb dX5_withLetter_7 (by decide) ?_
  refine lv_iadd hx hb dX5_withLetter_8 ?_
  refine lv_i2l (v := (((p0 - 97) + 1).toInt64)) hx hb dX5_withLetter_9 (rfl) ?_
  refine lv_lor hx hb dX5_withLetter_10 ?_
  have hP9 := hP.sub (ws' := []) [] rfl
  have hD9 := hD.sub (ws' := []) [] (by decide) rfl
  exact W.lret (v := (((g0 ((nI h0) : Int32).toNatClampNeg) <<< ((5 : Int32).toInt64 &&& 63)) ||| (((p0 - 97) + 1).toInt64))) hx hb hr (fun t ht hW => ⟨⟨(((g0 ((nI h0) : Int32).toNatClampNeg) <<< ((5 : Int32).toInt64 &&& 63)) ||| (((p0 - 97) + 1).toInt64)), (), rfl, rfl, ⟨by rw [ht]; exact hP9, hD9⟩⟩, hS.F ht⟩) hS.2.2 dX5_withLetter_11
