def v_s_X5_splitNumber : List Cond := Cond.code yX5_splitNumber cX5_splitNumber 6 (some .int) :: ([Cond.methodLink RX5 91 yX5_put, Cond.instanceMethod yX5_put, Cond.selects RX5 yX5_put yX5_put, Cond.initialized RX5, Cond.methodLink RX5 95 yX5_isLetter, Cond.static yX5_isLetter, Cond.methodLink RX5 102 yX5_isDigit, Cond.static yX5_isDigit] ++ (v_s_X5_put ++ (v_s_X5_isLetter ++ (v_s_X5_isDigit ++ ([])))))
theorem k_s_X5_splitNumber : GoodIn lw_tbl v_s_X5_splitNumber := gd_c (List.mem_of_getElem? (i := 620) (by decide +kernel)) rfl (goodIn_app (gd_c (List.mem_of_getElem? (i := 606) (by decide +kernel)) rfl (gd_c (List.mem_of_getElem? (i := 608) (by decide +kernel)) rfl (gd_c (List.mem_of_getElem? (i := 5) (by decide +kernel)) rfl (gd_c (List.mem_of_getElem? (i := 131) (by decide +kernel)) rfl (gd_c (List.mem_of_getElem? (i := 599) (by decide +kernel)) rfl (gd_c (List.mem_of_getElem? (i := 600) (by decide +kernel)) rfl (gd_c (List.mem_of_getElem? (i := 614) (by decide +kernel)) rfl (gd_c (List.mem_of_getElem? (i := 615) (by decide +kernel)) rfl (gd_nil))))))))) (goodIn_app k_s_X5_put (goodIn_app k_s_X5_isLetter (goodIn_app k_s_X5_isDigit (gd_nil)))))
set_option maxHeartbeats 2000000 in
set_option maxRecDepth 100000 in
theorem c_s_X5_splitNumber (l : Launch) (dC : Nat → ClassId) (dI : Nat → Nat → Nat) (cB cI cJ cZ cP : ClassId) (h0 : Nat) (h1 : Nat) (h2 : Nat) (g1 : Nat → Int32) (h3 : Nat) (g2 : Nat → Int32) (h4 : Nat) (g3 : Nat → Int64) (a0 : Int32) (ha0 : rg (0) (1601) a0) (a1 : Int32) (h5 : Nat) (a9 : Int32) (a10 : Int32) (a11 : Int32) (a12 : Int32) (a13 : Int32) (h15 : Nat) (g12 : Nat → Int32) (p1 : Int32) (hp1 : rg (0) (1599) p1) (p2 : Int32) (hp2 : rg (0) (1600) p2) (sz : Nat) : Met l yX5_splitNumber v_s_X5_splitNumber ({ frames := 1, cells := 0, slots := 0, locals := 24 }) (va_Pc [.ref h0, .ref h15, .int p1, .int p2] (fun U => U.heap.size = sz ∧ va_P (dC, dI) vwCl [(h0, .inr (5, [.ref h1, .ref h2, .ref h3, .ref h4, .int a0, .int a1, .ref h5, .int a9, .int a10, .int a11, .int a12, .int a13])), (h2, .inl (cI, 1601, .inl g1)), (h3, .inl (cI, 1601, .inl g2)), (h4, .inl (cJ, 1601, .inr (.inl g3))), (h15, .inl (cB, 1600, .inl g12))] U.heap ∧ va_K (dC, dI) vwCl (ty5 cB cI cJ cZ cP) U ∧ va_D (fun _ => True) [(h0, .inr (5, [.ref h1, .ref h2, .ref h3, .ref h4, .int a0, .int a1, .ref h5, .int a9, .int a10, .int a11, .int a12, .int a13])), (h2, .inl (cI, 1601, .inl g1)), (h3, .inl (cI, 1601, .inl g2)), (h4, .inl (cJ, 1601, .inr (.inl g3))), (h15, .inl (cB, 1600, .inl g12))])) (va_Qi (fun (r : Int32) (u9 : Unit) => rg (0) (1600) r) (fun u9 t => ∃ (z0 : Int32) (z1 : Nat → Int32) (z2 : Nat → Int32) (z3 : Nat → Int64), rg (0) (1601) z0 ∧ va_P (dC, dI) vwCl [(h0, .inr (5, [.ref h1, .ref h2, .ref h3, .ref h4, .int z0, .int a1, .ref h5, .int a9, .int a10, .int a11, .int a12, .int a13])), (h2, .inl (cI, 1601, .inl z1)), (h3, .inl (cI, 1601, .inl z2)), (h4, .inl (cJ, 1601, .inr (.inl z3))), (h15, .inl (cB, 1600, .inl g12))] t.heap ∧ va_D (va_A [(h0, .inr (5, [.ref h1, .ref h2, .ref h3, .ref h4, .int a0, .int a1, .ref h5, .int a9, .int a10, .int a11, .int a12, .int a13])), (h2, .inl (cI, 1601, .inl g1)), (h3, .inl (cI, 1601, .inl g2)), (h4, .inl (cJ, 1601, .inr (.inl g3))), (h15, .inl (cB, 1600, .inl g12))] sz) [(h0, .inr (5, [.ref h1, .ref h2, .ref h3, .ref h4, .int z0, .int a1, .ref h5, .int a9, .int a10, .int a11, .int a12, .int a13])), (h2, .inl (cI, 1601, .inl z1)), (h3, .inl (cI, 1601, .inl z2)), (h4, .inl (cJ, 1601, .inr (.inl z3))), (h15, .inl (cB, 1600, .inl g12))]) (va_A [(h0, .inr (5, [.ref h1, .ref h2, .ref h3, .ref h4, .int a0, .int a1, .ref h5, .int a9, .int a10, .int a11, .int a12, .int a13])), (h2, .inl (cI, 1601, .inl g1)), (h3, .inl (cI, 1601, .inl g2)), (h4, .inl (cJ, 1601, .inr (.inl g3))), (h15, .inl (cB, 1600, .inl g12))] sz)) 0 0 (va_A [(h0, .inr (5, [.ref h1, .ref h2, .ref h3, .ref h4, .int a0, .int a1, .ref h5, .int a9, .int a10, .int a11, .int a12, .int a13])), (h2, .inl (cI, 1601, .inl g1)), (h3, .inl (cI, 1601, .inl g2)), (h4, .inl (cJ, 1601, .inr (.inl g3))), (h15, .inl (cB, 1600, .inl g12))] sz) := by
  refine Met.ofW (cc := cX5_splitNumber) (maxL := 6) (ret := (some .int)) (by decide) rfl ?_
  intro p e s m args below meth c s₁ B hml hv
  obtain ⟨rfl, hsz, hP, hK, hD0⟩ := hv
  have hx := B.exec
  have hb := B.bytes
  have hr := B.returns
  have hts := atoms_spec (ws := v_s_X5_splitNumber) B.pre
  have hown : s.vm.findClass RX5 = some m.cls := findClass_of_methodNamed B.named
  have hlocks := B.notSynchronized
  subst hsz
  have hD := hD0.self (sz := s.heap.size)
  generalize hAe : va_A [(h0, .inr (5, [.ref h1, .ref h2, .ref h3, .ref h4, .int a0, .int a1, .ref h5, .int a9, .int a10, .int a11, .int a12, .int a13])), (h2, .inl (cI, 1601, .inl g1)), (h3, .inl (cI, 1601, .inl g2)), (h4, .inl (cJ, 1601, .inr (.inl g3))), (h15, .inl (cB, 1600, .inl g12))] s.heap.size = A at hD ⊢
  have hA : ∀ q : Nat, s.heap.size ≤ q → A q := fun q h => by rw [← hAe]; exact Or.inr h
  have hP : va_P (dC, dI) vwCl [(h0, .inr (5, [.ref h1, .ref h2, .ref h3, .ref h4, .int a0, .int a1, .ref h5, .int a9, .int a10, .int a11, .int a12, .int a13])), (h2, .inl (cI, 1601, .inl g1)), (h3, .inl (cI, 1601, .inl g2)), (h4, .inl (cJ, 1601, .inr (.inl g3))), (h15, .inl (cB, 1600, .inl g12))] s.heap := hP
  have hl := lv_entry ([.ref h0, .ref h15, .int p1, .int p2]) (n := 6) (Nat.le_of_ble_eq_true rfl)
  rw [lg_entry_eq]
  generalize (lg_sl ([.ref h0, .ref h15, .int p1, .int p2]) ++ List.replicate (6 - (lg_sl ([.ref h0, .ref h15, .int p1, .int p2])).length) Slot.unset).toArray = ls at hl ⊢
  have hl : lv_has ls 6 [(0, .ref h0), (1, .ref h15), (2, .int p1), (3, .int p2)] := hl
  refine W_gen (A := A) hP (fun H locs hP hS => ?_)
  refine lv_iconst (v := 0) hx hb dX5_splitNumber_0 (by decide) ?_
  refine lv_istore (lv' := [(4, .int 0), (0, .ref h0), (1, .ref h15), (2, .int p1), (3, .int p2)]) hx hb dX5_splitNumber_1 hl (by decide) rfl (fun ls hl => ?_)
  refine lv_iload_n hx hb dX5_splitNumber_3 rfl (lv_at hl 3 rfl) ?_
  refine lv_istore (lv' := [(5, .int p1), (4, .int 0), (0, .ref h0), (1, .ref h15), (2, .int p1), (3, .int p2)]) hx hb dX5_splitNumber_4 hl (by decide) rfl (fun ls hl => ?_)
  refine W_loopM (σ := Int32 × Int32) (fun u H locs ls => va_P (dC, dI) vwCl [(h0, .inr (5, [.ref h1, .ref h2, .ref h3, .ref h4, .int a0, .int a1, .ref h5, .int a9, .int a10, .int a11, .int a12, .int a13])), (h2, .inl (cI, 1601, .inl g1)), (h3, .inl (cI, 1601, .inl g2)), (h4, .inl (cJ, 1601, .inr (.inl g3))), (h15, .inl (cB, 1600, .inl g12))] H ∧ va_D A [(h0, .inr (5, [.ref h1, .ref h2, .ref h3, .ref h4, .int a0, .int a1, .ref h5, .int a9, .int a10, .int a11, .int a12, .int a13])), (h2, .inl (cI, 1601, .inl g1)), (h3, .inl (cI, 1601, .inl g2)), (h4, .inl (cJ, 1601, .inr (.inl g3))), (h15, .inl (cB, 1600, .inl g12))] ∧ va_S A s.heap H locs ∧ lv_has ls 6 [(5, .int u.1), (4, .int u.2), (0, .ref h0), (1, .ref h15), (2, .int p1), (3, .int p2)] ∧ rg (0) (1600) u.1) (fun u => ((1600) - u.1.toInt).toNat) 6 [] ?_ (p1, 0) H locs ls ⟨hP, hD, hS, hl, (rg_mono hp1 (by decide) (by decide))⟩
  rintro ⟨x_97, x_98⟩ H locs ls ⟨hP, hD, hS, hl, hx_97⟩ ih_201
  replace hP : va_P (dC, dI) vwCl [(h0, .inr (5, [.ref h1, .ref h2, .ref h3, .ref h4, .int a0, .int a1, .ref h5, .int a9, .int a10, .int a11, .int a12, .int a13])), (h2, .inl (cI, 1601, .inl g1)), (h3, .inl (cI, 1601, .inl g2)), (h4, .inl (cJ, 1601, .inr (.inl g3))), (h15, .inl (cB, 1600, .inl g12))] H := hP
  replace hD : va_D A [(h0, .inr (5, [.ref h1, .ref h2, .ref h3, .ref h4, .int a0, .int a1, .ref h5, .int a9, .int a10, .int a11, .int a12, .int a13])), (h2, .inl (cI, 1601, .inl g1)), (h3, .inl (cI, 1601, .inl g2)), (h4, .inl (cJ, 1601, .inr (.inl g3))), (h15, .inl (cB, 1600, .inl g12))] := hD
  replace hl : lv_has ls 6 [(5, .int x_97), (4, .int x_98), (0, .ref h0), (1, .ref h15), (2, .int p1), (3, .int p2)] := hl
  replace hx_97 : rg (0) (1600) x_97 := hx_97
  refine lv_iload hx hb dX5_splitNumber_6 (lv_at hl 0 rfl) ?_
  refine lv_iload_n hx hb dX5_splitNumber_8 rfl (lv_at hl 5 rfl) ?_
  refine lv_icmp_ge (tgt := 43) hx hb dX5_splitNumber_9 (by decide) (fun c_202 => ?_) (fun c_202 => ?_)
  · skip
    refine lv_iload hx hb dX5_splitNumber_43 (lv_at hl 0 rfl) ?_
    refine lv_iload_n hx hb dX5_splitNumber_45 rfl (lv_at hl 4 rfl) ?_
    refine lv_isub hx hb dX5_splitNumber_46 ?_
    refine lv_topi (fun x_203 ex_203 => ?_)
    have hx_203 : rg (-1599) (1600) x_203 := by rw [ex_203]; exact rg_mono (rg_sub hx_97 hp1 (by decide) (by decide)) (by decide) (by decide)
    have qx_203 : x_203.toInt = x_97.toInt - p1.toInt := by rw [ex_203]; exact rg_subQ hx_97 hp1 (by decide) (by decide)
    refine lv_iconst (v := 4) hx hb dX5_splitNumber_47 (by decide) ?_
    refine lv_icmp_gt (tgt := 67) hx hb dX5_splitNumber_48 (by decide) (fun c_204 => ?_) (fun c_204 => ?_)
    · skip
      have h_205 : rg (5) (1600) x_203 := by have ha := hx_203; have hb_ := (rg_k (x := 4) (c := 4) (by decide)); simp only [rg, fa_lt, fa_le, fa_eq, (by decide : (4 : Int32).toInt = 4)] at ha hb_ c_204; simp only [rg]; omega
      refine lv_aload_n hx hb dX5_splitNumber_67 rfl (lv_at hl 2 rfl) ?_
      refine lv_bipush (v := 29) hx hb dX5_splitNumber_68 (by decide) ?_
      refine lv_iload_n hx hb dX5_splitNumber_70 rfl (lv_at hl 4 rfl) ?_
      refine lv_lconst (v := 0) hx hb dX5_splitNumber_71 (by decide) ?_
      have hPc := hP.sub (ws' := [(h0, .inr (5, [.ref h1, .ref h2, .ref h3, .ref h4, .int a0, .int a1, .ref h5, .int a9, .int a10, .int a11, .int a12, .int a13])), (h2, .inl (cI, 1601, .inl g1)), (h3, .inl (cI, 1601, .inl g2)), (h4, .inl (cJ, 1601, .inr (.inl g3)))]) [0, 1, 2, 3] rfl
      have hDc := hD.sub (ws' := [(h0, .inr (5, [.ref h1, .ref h2, .ref h3, .ref h4, .int a0, .int a1, .ref h5, .int a9, .int a10, .int a11, .int a12, .int a13])), (h2, .inl (cI, 1601, .inl g1)), (h3, .inl (cI, 1601, .inl g2)), (h4, .inl (cJ, 1601, .inr (.inl g3)))]) [0, 1, 2, 3] (by decide) rfl
      have hFc := va_free (wc := [(h0, .inr (5, [.ref h1, .ref h2, .ref h3, .ref h4, .int a0, .int a1, .ref h5, .int a9, .int a10, .int a11, .int a12, .int a13])), (h2, .inl (cI, 1601, .inl g1)), (h3, .inl (cI, 1601, .inl g2)), (h4, .inl (cJ, 1601, .inr (.inl g3)))]) hD hS hA [0, 1, 2, 3] rfl
      refine va_callv (va_runV (As := [.int 29, .int p1, .long 0]) (rest := []) ⟨hx, hb, hml, hown, hts⟩ (c_s_X5_put l dC dI cB cI cJ cZ cP h0 h1 h2 g1 h3 g2 h4 g3 a0 (rg_mono ha0 (by decide) (by decide)) a1 h5 a9 a10 a11 a12 a13 29 p1 0 H.size) (cwV 3 hts (gd_V (List.mem_of_getElem? (i := 1) rfl) (List.mem_of_getElem? (i := 2) rfl) (List.mem_of_getElem? (i := 3) rfl) (List.mem_of_getElem? (i := 4) rfl) (gd_mono k_s_X5_put (fun _ h => List.mem_cons_of_mem _ (List.mem_append_right _ (List.mem_append_left _ h))))) rfl rfl rfl (by decide +kernel) ⟨Nat.le_of_ble_eq_true rfl, Nat.le_of_ble_eq_true rfl⟩) ⟨fun a U g mk q => by obtain ⟨q0, q1, qP, qK, qD⟩ := q; exact ⟨q0, q1, qP, va_K.moved (u := U) (U := U.calling g mk a) (Vm.Alike.refl U.vm) qK, qD⟩, va_recv hK hPc (ci := 5) (q0 := 0) rfl rfl, fun U hU hW => ⟨rfl, by rw [hU], by rw [hU]; exact hPc, va_K.moved hW.alike hK, hDc.weaken (fun _ _ _ _ => trivial)⟩⟩ rfl rfl hl.1 rfl (lv_room (Nat.le_of_ble_eq_true rfl)) dX5_splitNumber_72 ⟨Nat.le_of_ble_eq_true rfl, Nat.le_of_ble_eq_true rfl⟩) hS (fun q _ h => hFc q h) hFc (fun u t H1 locs ht hvm hw hB hz1 hk1 hS => ?_)
      obtain ⟨x_207, f_208, f_209, f_210, hx_207, hP1, hD1⟩ := hB
      rw [ht] at hP1
      obtain ⟨hP, hD⟩ := va_join (wr := [(h15, .inl (cB, 1600, .inl g12))]) (w1 := [(h0, .inr (5, [.ref h1, .ref h2, .ref h3, .ref h4, .int x_207, .int a1, .ref h5, .int a9, .int a10, .int a11, .int a12, .int a13])), (h2, .inl (cI, 1601, .inl f_208)), (h3, .inl (cI, 1601, .inl f_209)), (h4, .inl (cJ, 1601, .inr (.inl f_210)))]) hP hD [0, 1, 2, 3] [4] rfl rfl (by decide) (by decide) hk1 hFc hP1 hD1
      generalize H1 = H at hP hS ⊢
      replace hP : va_P (dC, dI) vwCl [(h15, .inl (cB, 1600, .inl g12)), (h0, .inr (5, [.ref h1, .ref h2, .ref h3, .ref h4, .int x_207, .int a1, .ref h5, .int a9, .int a10, .int a11, .int a12, .int a13])), (h2, .inl (cI, 1601, .inl f_208)), (h3, .inl (cI, 1601, .inl f_209)), (h4, .inl (cJ, 1601, .inr (.inl f_210)))] H := hP
      replace hD : va_D A [(h15, .inl (cB, 1600, .inl g12)), (h0, .inr (5, [.ref h1, .ref h2, .ref h3, .ref h4, .int x_207, .int a1, .ref h5, .int a9, .int a10, .int a11, .int a12, .int a13])), (h2, .inl (cI, 1601, .inl f_208)), (h3, .inl (cI, 1601, .inl f_209)), (h4, .inl (cJ, 1601, .inr (.inl f_210)))] := hD
      refine lv_iload_n hx hb dX5_splitNumber_75 rfl (lv_at hl 5 rfl) ?_
      have hP9 := hP.sub (ws' := [(h0, .inr (5, [.ref h1, .ref h2, .ref h3, .ref h4, .int x_207, .int a1, .ref h5, .int a9, .int a10, .int a11, .int a12, .int a13])), (h2, .inl (cI, 1601, .inl f_208)), (h3, .inl (cI, 1601, .inl f_209)), (h4, .inl (cJ, 1601, .inr (.inl f_210))), (h15, .inl (cB, 1600, .inl g12))]) [1, 2, 3, 4, 0] rfl
      have hD9 := hD.sub (ws' := [(h0, .inr (5, [.ref h1, .ref h2, .ref h3, .ref h4, .int x_207, .int a1, .ref h5, .int a9, .int a10, .int a11, .int a12, .int a13])), (h2, .inl (cI, 1601, .inl f_208)), (h3, .inl (cI, 1601, .inl f_209)), (h4, .inl (cJ, 1601, .inr (.inl f_210))), (h15, .inl (cB, 1600, .inl g12))]) [1, 2, 3, 4, 0] (by decide) rfl
      exact W.iret (v := p2) hx hb hr (fun t ht hW => ⟨⟨p2, (), rfl, (rg_mono hp2 (by decide) (by decide)), ⟨x_207, f_208, f_209, f_210, (rg_mono hx_207 (by decide) (by decide)), by rw [ht]; exact hP9, hD9⟩⟩, hS.F ht⟩) hS.2.2 dX5_splitNumber_76
    · skip
      have h_211 : rg (-1599) (4) x_203 := by have ha := hx_203; have hb_ := (rg_k (x := 4) (c := 4) (by decide)); simp only [rg, fa_lt, fa_le, fa_eq, (by decide : (4 : Int32).toInt = 4)] at ha hb_ c_204; simp only [rg]; omega
      refine lv_iload hx hb dX5_splitNumber_51 (lv_at hl 0 rfl) ?_
      refine lv_iload_n hx hb dX5_splitNumber_53 rfl (lv_at hl 5 rfl) ?_
      refine lv_icmp_ge (tgt := 77) hx hb dX5_splitNumber_54 (by decide) (fun c_212 => ?_) (fun c_212 => ?_)
      · skip
        refine lv_aload_n hx hb dX5_splitNumber_77 rfl (lv_at hl 2 rfl) ?_
        refine lv_bipush (v := 17) hx hb dX5_splitNumber_78 (by decide) ?_
        refine lv_iload_n hx hb dX5_splitNumber_80 rfl (lv_at hl 4 rfl) ?_
        refine lv_iload hx hb dX5_splitNumber_81 (lv_at hl 1 rfl) ?_
        refine lv_i2l hx hb dX5_splitNumber_83 rfl ?_
        refine lv_topl (fun y_213 ey_213 => ?_)
        clear ey_213
        have hPc := hP.sub (ws' := [(h0, .inr (5, [.ref h1, .ref h2, .ref h3, .ref h4, .int a0, .int a1, .ref h5, .int a9, .int a10, .int a11, .int a12, .int a13])), (h2, .inl (cI, 1601, .inl g1)), (h3, .inl (cI, 1601, .inl g2)), (h4, .inl (cJ, 1601, .inr (.inl g3)))]) [0, 1, 2, 3] rfl
        have hDc := hD.sub (ws' := [(h0, .inr (5, [.ref h1, .ref h2, .ref h3, .ref h4, .int a0, .int a1, .ref h5, .int a9, .int a10, .int a11, .int a12, .int a13])), (h2, .inl (cI, 1601, .inl g1)), (h3, .inl (cI, 1601, .inl g2)), (h4, .inl (cJ, 1601, .inr (.inl g3)))]) [0, 1, 2, 3] (by decide) rfl
        have hFc := va_free (wc := [(h0, .inr (5, [.ref h1, .ref h2, .ref h3, .ref h4, .int a0, .int a1, .ref h5, .int a9, .int a10, .int a11, .int a12, .int a13])), (h2, .inl (cI, 1601, .inl g1)), (h3, .inl (cI, 1601, .inl g2)), (h4, .inl (cJ, 1601, .inr (.inl g3)))]) hD hS hA [0, 1, 2, 3] rfl
        refine va_callv (va_runV (As := [.int 17, .int p1, .long y_213]) (rest := []) ⟨hx, hb, hml, hown, hts⟩ (c_s_X5_put l dC dI cB cI cJ cZ cP h0 h1 h2 g1 h3 g2 h4 g3 a0 (rg_mono ha0 (by decide) (by decide)) a1 h5 a9 a10 a11 a12 a13 17 p1 y_213 H.size) (cwV 3 hts (gd_V (List.mem_of_getElem? (i := 1) rfl) (List.mem_of_getElem? (i := 2) rfl) (List.mem_of_getElem? (i := 3) rfl) (List.mem_of_getElem? (i := 4) rfl) (gd_mono k_s_X5_put (fun _ h => List.mem_cons_of_mem _ (List.mem_append_right _ (List.mem_append_left _ h))))) rfl rfl rfl (by decide +kernel) ⟨Nat.le_of_ble_eq_true rfl, Nat.le_of_ble_eq_true rfl⟩) ⟨fun a U g mk q => by obtain ⟨q0, q1, qP, qK, qD⟩ := q; exact ⟨q0, q1, qP, va_K.moved (u := U) (U := U.calling g mk a) (Vm.Alike.refl U.vm) qK, qD⟩, va_recv hK hPc (ci := 5) (q0 := 0) rfl rfl, fun U hU hW => ⟨rfl, by rw [hU], by rw [hU]; exact hPc, va_K.moved hW.alike hK, hDc.weaken (fun _ _ _ _ => trivial)⟩⟩ rfl rfl hl.1 rfl (lv_room (Nat.le_of_ble_eq_true rfl)) dX5_splitNumber_84 ⟨Nat.le_of_ble_eq_true rfl, Nat.le_of_ble_eq_true rfl⟩) hS (fun q _ h => hFc q h) hFc (fun u t H1 locs ht hvm hw hB hz1 hk1 hS => ?_)
        obtain ⟨x_215, f_216, f_217, f_218, hx_215, hP1, hD1⟩ := hB
        rw [ht] at hP1
        obtain ⟨hP, hD⟩ := va_join (wr := [(h15, .inl (cB, 1600, .inl g12))]) (w1 := [(h0, .inr (5, [.ref h1, .ref h2, .ref h3, .ref h4, .int x_215, .int a1, .ref h5, .int a9, .int a10, .int a11, .int a12, .int a13])), (h2, .inl (cI, 1601, .inl f_216)), (h3, .inl (cI, 1601, .inl f_217)), (h4, .inl (cJ, 1601, .inr (.inl f_218)))]) hP hD [0, 1, 2, 3] [4] rfl rfl (by decide) (by decide) hk1 hFc hP1 hD1
        generalize H1 = H at hP hS ⊢
        replace hP : va_P (dC, dI) vwCl [(h15, .inl (cB, 1600, .inl g12)), (h0, .inr (5, [.ref h1, .ref h2, .ref h3, .ref h4, .int x_215, .int a1, .ref h5, .int a9, .int a10, .int a11, .int a12, .int a13])), (h2, .inl (cI, 1601, .inl f_216)), (h3, .inl (cI, 1601, .inl f_217)), (h4, .inl (cJ, 1601, .inr (.inl f_218)))] H := hP
        replace hD : va_D A [(h15, .inl (cB, 1600, .inl g12)), (h0, .inr (5, [.ref h1, .ref h2, .ref h3, .ref h4, .int x_215, .int a1, .ref h5, .int a9, .int a10, .int a11, .int a12, .int a13])), (h2, .inl (cI, 1601, .inl f_216)), (h3, .inl (cI, 1601, .inl f_217)), (h4, .inl (cJ, 1601, .inr (.inl f_218)))] := hD
        refine lv_iload hx hb dX5_splitNumber_87 (lv_at hl 0 rfl) ?_
        have hP9 := hP.sub (ws' := [(h0, .inr (5, [.ref h1, .ref h2, .ref h3, .ref h4, .int x_215, .int a1, .ref h5, .int a9, .int a10, .int a11, .int a12, .int a13])), (h2, .inl (cI, 1601, .inl f_216)), (h3, .inl (cI, 1601, .inl f_217)), (h4, .inl (cJ, 1601, .inr (.inl f_218))), (h15, .inl (cB, 1600, .inl g12))]) [1, 2, 3, 4, 0] rfl
        have hD9 := hD.sub (ws' := [(h0, .inr (5, [.ref h1, .ref h2, .ref h3, .ref h4, .int x_215, .int a1, .ref h5, .int a9, .int a10, .int a11, .int a12, .int a13])), (h2, .inl (cI, 1601, .inl f_216)), (h3, .inl (cI, 1601, .inl f_217)), (h4, .inl (cJ, 1601, .inr (.inl f_218))), (h15, .inl (cB, 1600, .inl g12))]) [1, 2, 3, 4, 0] (by decide) rfl
        exact W.iret (v := x_97) hx hb hr (fun t ht hW => ⟨⟨x_97, (), rfl, (rg_mono hx_97 (by decide) (by decide)), ⟨x_215, f_216, f_217, f_218, (rg_mono hx_215 (by decide) (by decide)), by rw [ht]; exact hP9, hD9⟩⟩, hS.F ht⟩) hS.2.2 dX5_splitNumber_89
      · skip
        have h_219 : rg (0) (1599) x_97 := by have ha := hx_97; have hb_ := hp2; simp only [rg, fa_lt, fa_le, fa_eq] at ha hb_ c_212; simp only [rg]; omega
        have h_220 : rg (0) (1599) p2 := by have ha := h_219; have hb_ := hp2; have hc_ := c_202; simp only [rg, fa_lt, fa_le, fa_eq] at ha hb_ hc_; simp only [rg]; omega
        have h_221 : rg (0) (1598) x_97 := by have ha := h_219; have hb_ := h_220; have hc_ := c_212; simp only [rg, fa_lt, fa_le, fa_eq] at ha hb_ hc_; simp only [rg]; omega
        have h_222 : rg (0) (1598) p2 := by have ha := h_221; have hb_ := h_220; have hc_ := c_202; simp only [rg, fa_lt, fa_le, fa_eq] at ha hb_ hc_; simp only [rg]; omega
        have h_223 : rg (0) (1597) x_97 := by have ha := h_221; have hb_ := h_222; have hc_ := c_212; simp only [rg, fa_lt, fa_le, fa_eq] at ha hb_ hc_; simp only [rg]; omega
        have h_224 : rg (1) (1598) p2 := by have ha := h_221; have hb_ := h_222; have hc_ := c_212; simp only [rg, fa_lt, fa_le, fa_eq] at ha hb_ hc_; simp only [rg]; omega
        have h_225 : rg (1) (1600) p2 := by have ha := hx_97; have hb_ := hp2; simp only [rg, fa_lt, fa_le, fa_eq] at ha hb_ c_212; simp only [rg]; omega
        have h_226 : rg (1) (1597) x_97 := by have ha := h_223; have hb_ := h_225; have hc_ := c_202; simp only [rg, fa_lt, fa_le, fa_eq] at ha hb_ hc_; simp only [rg]; omega
        have h_227 : rg (1) (1597) p2 := by have ha := h_226; have hb_ := h_225; have hc_ := c_202; simp only [rg, fa_lt, fa_le, fa_eq] at ha hb_ hc_; simp only [rg]; omega
        have h_228 : rg (1) (1596) x_97 := by have ha := h_226; have hb_ := h_227; have hc_ := c_212; simp only [rg, fa_lt, fa_le, fa_eq] at ha hb_ hc_; simp only [rg]; omega
        have h_229 : rg (1) (1596) p2 := by have ha := h_228; have hb_ := h_227; have hc_ := c_202; simp only [rg, fa_lt, fa_le, fa_eq] at ha hb_ hc_; simp only [rg]; omega
        have h_230 : rg (1) (1595) x_97 := by have ha := h_228; have hb_ := h_229; have hc_ := c_212; simp only [rg, fa_lt, fa_le, fa_eq] at ha hb_ hc_; simp only [rg]; omega
        have h_231 : rg (2) (1596) p2 := by have ha := h_228; have hb_ := h_229; have hc_ := c_212; simp only [rg, fa_lt, fa_le, fa_eq] at ha hb_ hc_; simp only [rg]; omega
        refine lv_aload_n hx hb dX5_splitNumber_57 rfl (lv_at hl 3 rfl) ?_
        refine lv_iload hx hb dX5_splitNumber_58 (lv_at hl 0 rfl) ?_
        refine va_bald hx hb hK hP 4 0 rfl rfl (rg_in (n := 1600) (rg_mono h_230 (by decide) (by decide))) dX5_splitNumber_60 ?_
        refine lv_topi (fun x_232 ex_232 => ?_)
        have hPc := hP.sub (ws' := []) [] rfl
        have hDc := hD.sub (ws' := []) [] (by decide) rfl
        have hFc := va_free (wc := []) hD hS hA [] rfl
        refine va_calli (va_runS (As := [.int x_232]) (rest := []) ⟨hx, hb, hml, hown, hts⟩ (c_s_X5_isLetter l dC dI cB cI cJ cZ cP x_232 H.size) (va_cwS 1 hts (gd_S (List.mem_of_getElem? (i := 5) rfl) (List.mem_of_getElem? (i := 6) rfl) (List.mem_of_getElem? (i := 4) rfl) (gd_mono k_s_X5_isLetter (fun _ h => List.mem_cons_of_mem _ (List.mem_append_right _ (List.mem_append_right _ (List.mem_append_left _ h)))))) rfl rfl rfl (by decide +kernel) ⟨Nat.le_of_ble_eq_true rfl, Nat.le_of_ble_eq_true rfl⟩) ⟨fun a U g mk q => by obtain ⟨q0, q1, qP, qK, qD⟩ := q; exact ⟨q0, q1, qP, va_K.moved (u := U) (U := U.calling g mk a) (Vm.Alike.refl U.vm) qK, qD⟩, fun U hU hW => ⟨rfl, by rw [hU], by rw [hU]; exact hPc, va_K.moved hW.alike hK, hDc.weaken (fun _ _ _ _ => trivial)⟩⟩ rfl rfl hl.1 rfl (lv_room (Nat.le_of_ble_eq_true rfl)) dX5_splitNumber_61 ⟨Nat.le_of_ble_eq_true rfl, Nat.le_of_ble_eq_true rfl⟩) hS (fun q _ h => hFc q h) hFc (fun r_233 u t H1 locs ht hvm hw hB hz1 hk1 hS => ?_)
        obtain ⟨hP1, hD1⟩ := hB
        rw [ht] at hP1
        obtain ⟨hP, hD⟩ := va_join (wr := [(h0, .inr (5, [.ref h1, .ref h2, .ref h3, .ref h4, .int a0, .int a1, .ref h5, .int a9, .int a10, .int a11, .int a12, .int a13])), (h2, .inl (cI, 1601, .inl g1)), (h3, .inl (cI, 1601, .inl g2)), (h4, .inl (cJ, 1601, .inr (.inl g3))), (h15, .inl (cB, 1600, .inl g12))]) (w1 := []) hP hD [] [0, 1, 2, 3, 4] rfl rfl (by decide) (by decide) hk1 hFc hP1 hD1
        generalize H1 = H at hP hS ⊢
        replace hP : va_P (dC, dI) vwCl [(h0, .inr (5, [.ref h1, .ref h2, .ref h3, .ref h4, .int a0, .int a1, .ref h5, .int a9, .int a10, .int a11, .int a12, .int a13])), (h2, .inl (cI, 1601, .inl g1)), (h3, .inl (cI, 1601, .inl g2)), (h4, .inl (cJ, 1601, .inr (.inl g3))), (h15, .inl (cB, 1600, .inl g12))] H := hP
        replace hD : va_D A [(h0, .inr (5, [.ref h1, .ref h2, .ref h3, .ref h4, .int a0, .int a1, .ref h5, .int a9, .int a10, .int a11, .int a12, .int a13])), (h2, .inl (cI, 1601, .inl g1)), (h3, .inl (cI, 1601, .inl g2)), (h4, .inl (cJ, 1601, .inr (.inl g3))), (h15, .inl (cB, 1600, .inl g12))] := hD
        have hr_233 : rg (0) (1) r_233 := hw
        refine lv_if_eq (tgt := 77) hx hb dX5_splitNumber_64 (by decide) (fun c_234 => ?_) (fun c_234 => ?_)
        · skip
          have h_235 : rg (0) (0) r_233 := by have ha := hr_233; have hb_ := (rg_k (x := 0) (c := 0) (by decide)); simp only [rg, fa_lt, fa_le, fa_eq, (by decide : (0 : Int32).toInt = 0)] at ha hb_ c_234; simp only [rg]; omega
          refine lv_aload_n hx hb dX5_splitNumber_77 rfl (lv_at hl 2 rfl) ?_
          refine lv_bipush (v := 17) hx hb dX5_splitNumber_78 (by decide) ?_
          refine lv_iload_n hx hb dX5_splitNumber_80 rfl (lv_at hl 4 rfl) ?_
          refine lv_iload hx hb dX5_splitNumber_81 (lv_at hl 1 rfl) ?_
          refine lv_i2l hx hb dX5_splitNumber_83 rfl ?_
          refine lv_topl (fun y_236 ey_236 => ?_)
          clear ey_236
          have hPc := hP.sub (ws' := [(h0, .inr (5, [.ref h1, .ref h2, .ref h3, .ref h4, .int a0, .int a1, .ref h5, .int a9, .int a10, .int a11, .int a12, .int a13])), (h2, .inl (cI, 1601, .inl g1)), (h3, .inl (cI, 1601, .inl g2)), (h4, .inl (cJ, 1601, .inr (.inl g3)))]) [0, 1, 2, 3] rfl
          have hDc := hD.sub (ws' := [(h0, .inr (5, [.ref h1, .ref h2, .ref h3, .ref h4, .int a0, .int a1, .ref h5, .int a9, .int a10, .int a11, .int a12, .int a13])), (h2, .inl (cI, 1601, .inl g1)), (h3, .inl (cI, 1601, .inl g2)), (h4, .inl (cJ, 1601, .inr (.inl g3)))]) [0, 1, 2, 3] (by decide) rfl
          have hFc := va_free (wc := [(h0, .inr (5, [.ref h1, .ref h2, .ref h3, .ref h4, .int a0, .int a1, .ref h5, .int a9, .int a10, .int a11, .int a12, .int a13])), (h2, .inl (cI, 1601, .inl g1)), (h3, .inl (cI, 1601, .inl g2)), (h4, .inl (cJ, 1601, .inr (.inl g3)))]) hD hS hA [0, 1, 2, 3] rfl
          refine va_callv (va_runV (As := [.int 17, .int p1, .long y_236]) (rest := []) ⟨hx, hb, hml, hown, hts⟩ (c_s_X5_put l dC dI cB cI cJ cZ cP h0 h1 h2 g1 h3 g2 h4 g3 a0 (rg_mono ha0 (by decide) (by decide)) a1 h5 a9 a10 a11 a12 a13 17 p1 y_236 H.size) (cwV 3 hts (gd_V (List.mem_of_getElem? (i := 1) rfl) (List.mem_of_getElem? (i := 2) rfl) (List.mem_of_getElem? (i := 3) rfl) (List.mem_of_getElem? (i := 4) rfl) (gd_mono k_s_X5_put (fun _ h => List.mem_cons_of_mem _ (List.mem_append_right _ (List.mem_append_left _ h))))) rfl rfl rfl (by decide +kernel) ⟨Nat.le_of_ble_eq_true rfl, Nat.le_of_ble_eq_true rfl⟩) ⟨fun a U g mk q => by obtain ⟨q0, q1, qP, qK, qD⟩ := q; exact ⟨q0, q1, qP, va_K.moved (u := U) (U := U.calling g mk a) (Vm.Alike.refl U.vm) qK, qD⟩, va_recv hK hPc (ci := 5) (q0 := 0) rfl rfl, fun U hU hW => ⟨rfl, by rw [hU], by rw [hU]; exact hPc, va_K.moved hW.alike hK, hDc.weaken (fun _ _ _ _ => trivial)⟩⟩ rfl rfl hl.1 rfl (lv_room (Nat.le_of_ble_eq_true rfl)) dX5_splitNumber_84 ⟨Nat.le_of_ble_eq_true rfl, Nat.le_of_ble_eq_true rfl⟩) hS (fun q _ h => hFc q h) hFc (fun u t H1 locs ht hvm hw hB hz1 hk1 hS => ?_)
          obtain ⟨x_238, f_239, f_240, f_241, hx_238, hP1, hD1⟩ := hB
          rw [ht] at hP1
          obtain ⟨hP, hD⟩ := va_join (wr := [(h15, .inl (cB, 1600, .inl g12))]) (w1 := [(h0, .inr (5, [.ref h1, .ref h2, .ref h3, .ref h4, .int x_238, .int a1, .ref h5, .int a9, .int a10, .int a11, .int a12, .int a13])), (h2, .inl (cI, 1601, .inl f_239)), (h3, .inl (cI, 1601, .inl f_240)), (h4, .inl (cJ, 1601, .inr (.inl f_241)))]) hP hD [0, 1, 2, 3] [4] rfl rfl (by decide) (by decide) hk1 hFc hP1 hD1
          generalize H1 = H at hP hS ⊢
          replace hP : va_P (dC, dI) vwCl [(h15, .inl (cB, 1600, .inl g12)), (h0, .inr (5, [.ref h1, .ref h2, .ref h3, .ref h4, .int x_238, .int a1, .ref h5, .int a9, .int a10, .int a11, .int a12, .int a13])), (h2, .inl (cI, 1601, .inl f_239)), (h3, .inl (cI, 1601, .inl f_240)), (h4, .inl (cJ, 1601, .inr (.inl f_241)))] H := hP
          replace hD : va_D A [(h15, .inl (cB, 1600, .inl g12)), (h0, .inr (5, [.ref h1, .ref h2, .ref h3, .ref h4, .int x_238, .int a1, .ref h5, .int a9, .int a10, .int a11, .int a12, .int a13])), (h2, .inl (cI, 1601, .inl f_239)), (h3, .inl (cI, 1601, .inl f_240)), (h4, .inl (cJ, 1601, .inr (.inl f_241)))] := hD
          refine lv_iload hx hb dX5_splitNumber_87 (lv_at hl 0 rfl) ?_
          have hP9 := hP.sub (ws' := [(h0, .inr (5, [.ref h1, .ref h2, .ref h3, .ref h4, .int x_238, .int a1, .ref h5, .int a9, .int a10, .int a11, .int a12, .int a13])), (h2, .inl (cI, 1601, .inl f_239)), (h3, .inl (cI, 1601, .inl f_240)), (h4, .inl (cJ, 1601, .inr (.inl f_241))), (h15, .inl (cB, 1600, .inl g12))]) [1, 2, 3, 4, 0] rfl
          have hD9 := hD.sub (ws' := [(h0, .inr (5, [.ref h1, .ref h2, .ref h3, .ref h4, .int x_238, .int a1, .ref h5, .int a9, .int a10, .int a11, .int a12, .int a13])), (h2, .inl (cI, 1601, .inl f_239)), (h3, .inl (cI, 1601, .inl f_240)), (h4, .inl (cJ, 1601, .inr (.inl f_241))), (h15, .inl (cB, 1600, .inl g12))]) [1, 2, 3, 4, 0] (by decide) rfl
          exact W.iret (v := x_97) hx hb hr (fun t ht hW => ⟨⟨x_97, (), rfl, (rg_mono h_230 (by decide) (by decide)), ⟨x_238, f_239, f_240, f_241, (rg_mono hx_238 (by decide) (by decide)), by rw [ht]; exact hP9, hD9⟩⟩, hS.F ht⟩) hS.2.2 dX5_splitNumber_89
        · skip
          have h_242 : rg (1) (1) r_233 := by have ha := hr_233; have hb_ := (rg_k (x := 0) (c := 0) (by decide)); simp only [rg, fa_lt, fa_le, fa_eq, (by decide : (0 : Int32).toInt = 0)] at ha hb_ c_234; simp only [rg]; omega
          refine lv_aload_n hx hb dX5_splitNumber_67 rfl (lv_at hl 2 rfl) ?_
          refine lv_bipush (v := 29) hx hb dX5_splitNumber_68 (by decide) ?_
          refine lv_iload_n hx hb dX5_splitNumber_70 rfl (lv_at hl 4 rfl) ?_
          refine lv_lconst (v := 0) hx hb dX5_splitNumber_71 (by decide) ?_
          have hPc := hP.sub (ws' := [(h0, .inr (5, [.ref h1, .ref h2, .ref h3, .ref h4, .int a0, .int a1, .ref h5, .int a9, .int a10, .int a11, .int a12, .int a13])), (h2, .inl (cI, 1601, .inl g1)), (h3, .inl (cI, 1601, .inl g2)), (h4, .inl (cJ, 1601, .inr (.inl g3)))]) [0, 1, 2, 3] rfl
          have hDc := hD.sub (ws' := [(h0, .inr (5, [.ref h1, .ref h2, .ref h3, .ref h4, .int a0, .int a1, .ref h5, .int a9, .int a10, .int a11, .int a12, .int a13])), (h2, .inl (cI, 1601, .inl g1)), (h3, .inl (cI, 1601, .inl g2)), (h4, .inl (cJ, 1601, .inr (.inl g3)))]) [0, 1, 2, 3] (by decide) rfl
          have hFc := va_free (wc := [(h0, .inr (5, [.ref h1, .ref h2, .ref h3, .ref h4, .int a0, .int a1, .ref h5, .int a9, .int a10, .int a11, .int a12, .int a13])), (h2, .inl (cI, 1601, .inl g1)), (h3, .inl (cI, 1601, .inl g2)), (h4, .inl (cJ, 1601, .inr (.inl g3)))]) hD hS hA [0, 1, 2, 3] rfl
          refine va_callv (va_runV (As := [.int 29, .int p1, .long 0]) (rest := []) ⟨hx, hb, hml, hown, hts⟩ (c_s_X5_put l dC dI cB cI cJ cZ cP h0 h1 h2 g1 h3 g2 h4 g3 a0 (rg_mono ha0 (by decide) (by decide)) a1 h5 a9 a10 a11 a12 a13 29 p1 0 H.size) (cwV 3 hts (gd_V (List.mem_of_getElem? (i := 1) rfl) (List.mem_of_getElem? (i := 2) rfl) (List.mem_of_getElem? (i := 3) rfl) (List.mem_of_getElem? (i := 4) rfl) (gd_mono k_s_X5_put (fun _ h => List.mem_cons_of_mem _ (List.mem_append_right _ (List.mem_append_left _ h))))) rfl rfl rfl (by decide +kernel) ⟨Nat.le_of_ble_eq_true rfl, Nat.le_of_ble_eq_true rfl⟩) ⟨fun a U g mk q => by obtain ⟨q0, q1, qP, qK, qD⟩ := q; exact ⟨q0, q1, qP, va_K.moved (u := U) (U := U.calling g mk a) (Vm.Alike.refl U.vm) qK, qD⟩, va_recv hK hPc (ci := 5) (q0 := 0) rfl rfl, fun U hU hW => ⟨rfl, by rw [hU], by rw [hU]; exact hPc, va_K.moved hW.alike hK, hDc.weaken (fun _ _ _ _ => trivial)⟩⟩ rfl rfl hl.1 rfl (lv_room (Nat.le_of_ble_eq_true rfl)) dX5_splitNumber_72 ⟨Nat.le_of_ble_eq_true rfl, Nat.le_of_ble_eq_true rfl⟩) hS (fun q _ h => hFc q h) hFc (fun u t H1 locs ht hvm hw hB hz1 hk1 hS => ?_)
          obtain ⟨x_244, f_245, f_246, f_247, hx_244, hP1, hD1⟩ := hB
          rw [ht] at hP1
          obtain ⟨hP, hD⟩ := va_join (wr := [(h15, .inl (cB, 1600, .inl g12))]) (w1 := [(h0, .inr (5, [.ref h1, .ref h2, .ref h3, .ref h4, .int x_244, .int a1, .ref h5, .int a9, .int a10, .int a11, .int a12, .int a13])), (h2, .inl (cI, 1601, .inl f_245)), (h3, .inl (cI, 1601, .inl f_246)), (h4, .inl (cJ, 1601, .inr (.inl f_247)))]) hP hD [0, 1, 2, 3] [4] rfl rfl (by decide) (by decide) hk1 hFc hP1 hD1
          generalize H1 = H at hP hS ⊢
          replace hP : va_P (dC, dI) vwCl [(h15, .inl (cB, 1600, .inl g12)), (h0, .inr (5, [.ref h1, .ref h2, .ref h3, .ref h4, .int x_244, .int a1, .ref h5, .int a9, .int a10, .int a11, .int a12, .int a13])), (h2, .inl (cI, 1601, .inl f_245)), (h3, .inl (cI, 1601, .inl f_246)), (h4, .inl (cJ, 1601, .inr (.inl f_247)))] H := hP
          replace hD : va_D A [(h15, .inl (cB, 1600, .inl g12)), (h0, .inr (5, [.ref h1, .ref h2, .ref h3, .ref h4, .int x_244, .int a1, .ref h5, .int a9, .int a10, .int a11, .int a12, .int a13])), (h2, .inl (cI, 1601, .inl f_245)), (h3, .inl (cI, 1601, .inl f_246)), (h4, .inl (cJ, 1601, .inr (.inl f_247)))] := hD
          refine lv_iload_n hx hb dX5_splitNumber_75 rfl (lv_at hl 5 rfl) ?_
          have hP9 := hP.sub (ws' := [(h0, .inr (5, [.ref h1, .ref h2, .ref h3, .ref h4, .int x_244, .int a1, .ref h5, .int a9, .int a10, .int a11, .int a12, .int a13])), (h2, .inl (cI, 1601, .inl f_245)), (h3, .inl (cI, 1601, .inl f_246)), (h4, .inl (cJ, 1601, .inr (.inl f_247))), (h15, .inl (cB, 1600, .inl g12))]) [1, 2, 3, 4, 0] rfl
          have hD9 := hD.sub (ws' := [(h0, .inr (5, [.ref h1, .ref h2, .ref h3, .ref h4, .int x_244, .int a1, .ref h5, .int a9, .int a10, .int a11, .int a12, .int a13])), (h2, .inl (cI, 1601, .inl f_245)), (h3, .inl (cI, 1601, .inl f_246)), (h4, .inl (cJ, 1601, .inr (.inl f_247))), (h15, .inl (cB, 1600, .inl g12))]) [1, 2, 3, 4, 0] (by decide) rfl
          exact W.iret (v := p2) hx hb hr (fun t ht hW => ⟨⟨p2, (), rfl, (rg_mono h_231 (by decide) (by decide)), ⟨x_244, f_245, f_246, f_247, (rg_mono hx_244 (by decide) (by decide)), by rw [ht]; exact hP9, hD9⟩⟩, hS.F ht⟩) hS.2.2 dX5_splitNumber_76
  · skip
    have h_248 : rg (0) (1599) x_97 := by have ha := hx_97; have hb_ := hp2; simp only [rg, fa_lt, fa_le, fa_eq] at ha hb_ c_202; simp only [rg]; omega
    have h_249 : rg (1) (1600) p2 := by have ha := h_248; have hb_ := hp2; have hc_ := c_202; simp only [rg, fa_lt, fa_le, fa_eq] at ha hb_ hc_; simp only [rg]; omega
    have h_250 : rg (1) (1600) p2 := by have ha := hx_97; have hb_ := hp2; simp only [rg, fa_lt, fa_le, fa_eq] at ha hb_ c_202; simp only [rg]; omega
    refine lv_aload_n hx hb dX5_splitNumber_12 rfl (lv_at hl 3 rfl) ?_
    refine lv_iload hx hb dX5_splitNumber_13 (lv_at hl 0 rfl) ?_
    refine va_bald hx hb hK hP 4 0 rfl rfl (rg_in (n := 1600) (rg_mono h_248 (by decide) (by decide))) dX5_splitNumber_15 ?_
    refine lv_topi (fun x_251 ex_251 => ?_)
    have hPc := hP.sub (ws' := []) [] rfl
    have hDc := hD.sub (ws' := []) [] (by decide) rfl
    have hFc := va_free (wc := []) hD hS hA [] rfl
    refine va_calli (va_runS (As := [.int x_251]) (rest := []) ⟨hx, hb, hml, hown, hts⟩ (c_s_X5_isDigit l dC dI cB cI cJ cZ cP x_251 H.size) (va_cwS 1 hts (gd_S (List.mem_of_getElem? (i := 7) rfl) (List.mem_of_getElem? (i := 8) rfl) (List.mem_of_getElem? (i := 4) rfl) (gd_mono k_s_X5_isDigit (fun _ h => List.mem_cons_of_mem _ (List.mem_append_right _ (List.mem_append_right _ (List.mem_append_right _ (List.mem_append_left _ h))))))) rfl rfl rfl (by decide +kernel) ⟨Nat.le_of_ble_eq_true rfl, Nat.le_of_ble_eq_true rfl⟩) ⟨fun a U g mk q => by obtain ⟨q0, q1, qP, qK, qD⟩ := q; exact ⟨q0, q1, qP, va_K.moved (u := U) (U := U.calling g mk a) (Vm.Alike.refl U.vm) qK, qD⟩, fun U hU hW => ⟨rfl, by rw [hU], by rw [hU]; exact hPc, va_K.moved hW.alike hK, hDc.weaken (fun _ _ _ _ => trivial)⟩⟩ rfl rfl hl.1 rfl (lv_room (Nat.le_of_ble_eq_true rfl)) dX5_splitNumber_16 ⟨Nat.le_of_ble_eq_true rfl, Nat.le_of_ble_eq_true rfl⟩) hS (fun q _ h => hFc q h) hFc (fun r_252 u t H1 locs ht hvm hw hB hz1 hk1 hS => ?_)
    obtain ⟨hP1, hD1⟩ := hB
    rw [ht] at hP1
    obtain ⟨hP, hD⟩ := va_join (wr := [(h0, .inr (5, [.ref h1, .ref h2, .ref h3, .ref h4, .int a0, .int a1, .ref h5, .int a9, .int a10, .int a11, .int a12, .int a13])), (h2, .inl (cI, 1601, .inl g1)), (h3, .inl (cI, 1601, .inl g2)), (h4, .inl (cJ, 1601, .inr (.inl g3))), (h15, .inl (cB, 1600, .inl g12))]) (w1 := []) hP hD [] [0, 1, 2, 3, 4] rfl rfl (by decide) (by decide) hk1 hFc hP1 hD1
    generalize H1 = H at hP hS ⊢
    replace hP : va_P (dC, dI) vwCl [(h0, .inr (5, [.ref h1, .ref h2, .ref h3, .ref h4, .int a0, .int a1, .ref h5, .int a9, .int a10, .int a11, .int a12, .int a13])), (h2, .inl (cI, 1601, .inl g1)), (h3, .inl (cI, 1601, .inl g2)), (h4, .inl (cJ, 1601, .inr (.inl g3))), (h15, .inl (cB, 1600, .inl g12))] H := hP
    replace hD : va_D A [(h0, .inr (5, [.ref h1, .ref h2, .ref h3, .ref h4, .int a0, .int a1, .ref h5, .int a9, .int a10, .int a11, .int a12, .int a13])), (h2, .inl (cI, 1601, .inl g1)), (h3, .inl (cI, 1601, .inl g2)), (h4, .inl (cJ, 1601, .inr (.inl g3))), (h15, .inl (cB, 1600, .inl g12))] := hD
    have hr_252 : rg (0) (1) r_252 := hw
    refine lv_if_eq (tgt := 43) hx hb dX5_splitNumber_19 (by decide) (fun c_253 => ?_) (fun c_253 => ?_)
    · skip
      have h_254 : rg (0) (0) r_252 := by have ha := hr_252; have hb_ := (rg_k (x := 0) (c := 0) (by decide)); simp only [rg, fa_lt, fa_le, fa_eq, (by decide : (0 : Int32).toInt = 0)] at ha hb_ c_253; simp only [rg]; omega
      refine lv_iload hx hb dX5_splitNumber_43 (lv_at hl 0 rfl) ?_
      refine lv_iload_n hx hb dX5_splitNumber_45 rfl (lv_at hl 4 rfl) ?_
      refine lv_isub hx hb dX5_splitNumber_46 ?_
      refine lv_topi (fun x_255 ex_255 => ?_)
      have hx_255 : rg (-1599) (1599) x_255 := by rw [ex_255]; exact rg_mono (rg_sub h_248 hp1 (by decide) (by decide)) (by decide) (by decide)
      have qx_255 : x_255.toInt = x_97.toInt - p1.toInt := by rw [ex_255]; exact rg_subQ h_248 hp1 (by decide) (by decide)
      refine lv_iconst (v := 4) hx hb dX5_splitNumber_47 (by decide) ?_
      refine lv_icmp_gt (tgt := 67) hx hb dX5_splitNumber_48 (by decide) (fun c_256 => ?_) (fun c_256 => ?_)
      · skip
        have h_257 : rg (5) (1599) x_255 := by have ha := hx_255; have hb_ := (rg_k (x := 4) (c := 4) (by decide)); simp only [rg, fa_lt, fa_le, fa_eq, (by decide : (4 : Int32).toInt = 4)] at ha hb_ c_256; simp only [rg]; omega
        refine lv_aload_n hx hb dX5_splitNumber_67 rfl (lv_at hl 2 rfl) ?_
        refine lv_bipush (v := 29) hx hb dX5_splitNumber_68 (by decide) ?_
        refine lv_iload_n hx hb dX5_splitNumber_70 rfl (lv_at hl 4 rfl) ?_
        refine lv_lconst (v := 0) hx hb dX5_splitNumber_71 (by decide) ?_
        have hPc := hP.sub (ws' := [(h0, .inr (5, [.ref h1, .ref h2, .ref h3, .ref h4, .int a0, .int a1, .ref h5, .int a9, .int a10, .int a11, .int a12, .int a13])), (h2, .inl (cI, 1601, .inl g1)), (h3, .inl (cI, 1601, .inl g2)), (h4, .inl (cJ, 1601, .inr (.inl g3)))]) [0, 1, 2, 3] rfl
        have hDc := hD.sub (ws' := [(h0, .inr (5, [.ref h1, .ref h2, .ref h3, .ref h4, .int a0, .int a1, .ref h5, .int a9, .int a10, .int a11, .int a12, .int a13])), (h2, .inl (cI, 1601, .inl g1)), (h3, .inl (cI, 1601, .inl g2)), (h4, .inl (cJ, 1601, .inr (.inl g3)))]) [0, 1, 2, 3] (by decide) rfl
        have hFc := va_free (wc := [(h0, .inr (5, [.ref h1, .ref h2, .ref h3, .ref h4, .int a0, .int a1, .ref h5, .int a9, .int a10, .int a11, .int a12, .int a13])), (h2, .inl (cI, 1601, .inl g1)), (h3, .inl (cI, 1601, .inl g2)), (h4, .inl (cJ, 1601, .inr (.inl g3)))]) hD hS hA [0, 1, 2, 3] rfl
        refine va_callv (va_runV (As := [.int 29, .int p1, .long 0]) (rest := []) ⟨hx, hb, hml, hown, hts⟩ (c_s_X5_put l dC dI cB cI cJ cZ cP h0 h1 h2 g1 h3 g2 h4 g3 a0 (rg_mono ha0 (by decide) (by decide)) a1 h5 a9 a10 a11 a12 a13 29 p1 0 H.size) (cwV 3 hts (gd_V (List.mem_of_getElem? (i := 1) rfl) (List.mem_of_getElem? (i := 2) rfl) (List.mem_of_getElem? (i := 3) rfl) (List.mem_of_getElem? (i := 4) rfl) (gd_mono k_s_X5_put (fun _ h => List.mem_cons_of_mem _ (List.mem_append_right _ (List.mem_append_left _ h))))) rfl rfl rfl (by decide +kernel) ⟨Nat.le_of_ble_eq_true rfl, Nat.le_of_ble_eq_true rfl⟩) ⟨fun a U g mk q => by obtain ⟨q0, q1, qP, qK, qD⟩ := q; exact ⟨q0, q1, qP, va_K.moved (u := U) (U := U.calling g mk a) (Vm.Alike.refl U.vm) qK, qD⟩, va_recv hK hPc (ci := 5) (q0 := 0) rfl rfl, fun U hU hW => ⟨rfl, by rw [hU], by rw [hU]; exact hPc, va_K.moved hW.alike hK, hDc.weaken (fun _ _ _ _ => trivial)⟩⟩ rfl rfl hl.1 rfl (lv_room (Nat.le_of_ble_eq_true rfl)) dX5_splitNumber_72 ⟨Nat.le_of_ble_eq_true rfl, Nat.le_of_ble_eq_true rfl⟩) hS (fun q _ h => hFc q h) hFc (fun u t H1 locs ht hvm hw hB hz1 hk1 hS => ?_)
        obtain ⟨x_259, f_260, f_261, f_262, hx_259, hP1, hD1⟩ := hB
        rw [ht] at hP1
        obtain ⟨hP, hD⟩ := va_join (wr := [(h15, .inl (cB, 1600, .inl g12))]) (w1 := [(h0, .inr (5, [.ref h1, .ref h2, .ref h3, .ref h4, .int x_259, .int a1, .ref h5, .int a9, .int a10, .int a11, .int a12, .int a13])), (h2, .inl (cI, 1601, .inl f_260)), (h3, .inl (cI, 1601, .inl f_261)), (h4, .inl (cJ, 1601, .inr (.inl f_262)))]) hP hD [0, 1, 2, 3] [4] rfl rfl (by decide) (by decide) hk1 hFc hP1 hD1
        generalize H1 = H at hP hS ⊢
        replace hP : va_P (dC, dI) vwCl [(h15, .inl (cB, 1600, .inl g12)), (h0, .inr (5, [.ref h1, .ref h2, .ref h3, .ref h4, .int x_259, .int a1, .ref h5, .int a9, .int a10, .int a11, .int a12, .int a13])), (h2, .inl (cI, 1601, .inl f_260)), (h3, .inl (cI, 1601, .inl f_261)), (h4, .inl (cJ, 1601, .inr (.inl f_262)))] H := hP
        replace hD : va_D A [(h15, .inl (cB, 1600, .inl g12)), (h0, .inr (5, [.ref h1, .ref h2, .ref h3, .ref h4, .int x_259, .int a1, .ref h5, .int a9, .int a10, .int a11, .int a12, .int a13])), (h2, .inl (cI, 1601, .inl f_260)), (h3, .inl (cI, 1601, .inl f_261)), (h4, .inl (cJ, 1601, .inr (.inl f_262)))] := hD
        refine lv_iload_n hx hb dX5_splitNumber_75 rfl (lv_at hl 5 rfl) ?_
        have hP9 := hP.sub (ws' := [(h0, .inr (5, [.ref h1, .ref h2, .ref h3, .ref h4, .int x_259, .int a1, .ref h5, .int a9, .int a10, .int a11, .int a12, .int a13])), (h2, .inl (cI, 1601, .inl f_260)), (h3, .inl (cI, 1601, .inl f_261)), (h4, .inl (cJ, 1601, .inr (.inl f_262))), (h15, .inl (cB, 1600, .inl g12))]) [1, 2, 3, 4, 0] rfl
        have hD9 := hD.sub (ws' := [(h0, .inr (5, [.ref h1, .ref h2, .ref h3, .ref h4, .int x_259, .int a1, .ref h5, .int a9, .int a10, .int a11, .int a12, .int a13])), (h2, .inl (cI, 1601, .inl f_260)), (h3, .inl (cI, 1601, .inl f_261)), (h4, .inl (cJ, 1601, .inr (.inl f_262))), (h15, .inl (cB, 1600, .inl g12))]) [1, 2, 3, 4, 0] (by decide) rfl
        exact W.iret (v := p2) hx hb hr (fun t ht hW => ⟨⟨p2, (), rfl, (rg_mono h_250 (by decide) (by decide)), ⟨x_259, f_260, f_261, f_262, (rg_mono hx_259 (by decide) (by decide)), by rw [ht]; exact hP9, hD9⟩⟩, hS.F ht⟩) hS.2.2 dX5_splitNumber_76
      · skip
        have h_263 : rg (-1599) (4) x_255 := by have ha := hx_255; have hb_ := (rg_k (x := 4) (c := 4) (by decide)); simp only [rg, fa_lt, fa_le, fa_eq, (by decide : (4 : Int32).toInt = 4)] at ha hb_ c_256; simp only [rg]; omega
        refine lv_iload hx hb dX5_splitNumber_51 (lv_at hl 0 rfl) ?_
        refine lv_iload_n hx hb dX5_splitNumber_53 rfl (lv_at hl 5 rfl) ?_
        refine lv_icmp_ge (tgt := 77) hx hb dX5_splitNumber_54 (by decide) (fun c_264 => ?_) (fun c_264 => ?_)
        · skip
          have h_265 : rg (1) (1599) x_97 := by have ha := h_248; have hb_ := h_250; simp only [rg, fa_lt, fa_le, fa_eq] at ha hb_ c_264; simp only [rg]; omega
          have h_266 : rg (2) (1600) p2 := by have ha := h_265; have hb_ := h_250; have hc_ := c_202; simp only [rg, fa_lt, fa_le, fa_eq] at ha hb_ hc_; simp only [rg]; omega
          have h_267 : rg (2) (1599) x_97 := by have ha := h_265; have hb_ := h_266; have hc_ := c_264; simp only [rg, fa_lt, fa_le, fa_eq] at ha hb_ hc_; simp only [rg]; omega
          have h_268 : rg (3) (1600) p2 := by have ha := h_267; have hb_ := h_266; have hc_ := c_202; simp only [rg, fa_lt, fa_le, fa_eq] at ha hb_ hc_; simp only [rg]; omega
          have h_269 : rg (3) (1599) x_97 := by have ha := h_267; have hb_ := h_268; have hc_ := c_264; simp only [rg, fa_lt, fa_le, fa_eq] at ha hb_ hc_; simp only [rg]; omega
          have h_270 : rg (3) (1599) p2 := by have ha := h_267; have hb_ := h_268; have hc_ := c_264; simp only [rg, fa_lt, fa_le, fa_eq] at ha hb_ hc_; simp only [rg]; omega
          have h_271 : rg (1) (1599) p2 := by have ha := h_248; have hb_ := h_250; simp only [rg, fa_lt, fa_le, fa_eq] at ha hb_ c_264; simp only [rg]; omega
          have h_272 : rg (3) (1598) x_97 := by have ha := h_269; have hb_ := h_271; have hc_ := c_202; simp only [rg, fa_lt, fa_le, fa_eq] at ha hb_ hc_; simp only [rg]; omega
          have h_273 : rg (4) (1599) p2 := by have ha := h_272; have hb_ := h_271; have hc_ := c_202; simp only [rg, fa_lt, fa_le, fa_eq] at ha hb_ hc_; simp only [rg]; omega
          have h_274 : rg (4) (1598) x_97 := by have ha := h_272; have hb_ := h_273; have hc_ := c_264; simp only [rg, fa_lt, fa_le, fa_eq] at ha hb_ hc_; simp only [rg]; omega
          have h_275 : rg (5) (1599) p2 := by have ha := h_274; have hb_ := h_273; have hc_ := c_202; simp only [rg, fa_lt, fa_le, fa_eq] at ha hb_ hc_; simp only [rg]; omega
          have h_276 : rg (5) (1598) x_97 := by have ha := h_274; have hb_ := h_275; have hc_ := c_264; simp only [rg, fa_lt, fa_le, fa_eq] at ha hb_ hc_; simp only [rg]; omega
          have h_277 : rg (5) (1598) p2 := by have ha := h_274; have hb_ := h_275; have hc_ := c_264; simp only [rg, fa_lt, fa_le, fa_eq] at ha hb_ hc_; simp only [rg]; omega
          refine lv_aload_n hx hb dX5_splitNumber_77 rfl (lv_at hl 2 rfl) ?_
          refine lv_bipush (v := 17) hx hb dX5_splitNumber_78 (by decide) ?_
          refine lv_iload_n hx hb dX5_splitNumber_80 rfl (lv_at hl 4 rfl) ?_
          refine lv_iload hx hb dX5_splitNumber_81 (lv_at hl 1 rfl) ?_
          refine lv_i2l hx hb dX5_splitNumber_83 rfl ?_
          refine lv_topl (fun y_278 ey_278 => ?_)
          clear ey_278
          have hPc := hP.sub (ws' := [(h0, .inr (5, [.ref h1, .ref h2, .ref h3, .ref h4, .int a0, .int a1, .ref h5, .int a9, .int a10, .int a11, .int a12, .int a13])), (h2, .inl (cI, 1601, .inl g1)), (h3, .inl (cI, 1601, .inl g2)), (h4, .inl (cJ, 1601, .inr (.inl g3)))]) [0, 1, 2, 3] rfl
          have hDc := hD.sub (ws' := [(h0, .inr (5, [.ref h1, .ref h2, .ref h3, .ref h4, .int a0, .int a1, .ref h5, .int a9, .int a10, .int a11, .int a12, .int a13])), (h2, .inl (cI, 1601, .inl g1)), (h3, .inl (cI, 1601, .inl g2)), (h4, .inl (cJ, 1601, .inr (.inl g3)))]) [0, 1, 2, 3] (by decide) rfl
          have hFc := va_free (wc := [(h0, .inr (5, [.ref h1, .ref h2, .ref h3, .ref h4, .int a0, .int a1, .ref h5, .int a9, .int a10, .int a11, .int a12, .int a13])), (h2, .inl (cI, 1601, .inl g1)), (h3, .inl (cI, 1601, .inl g2)), (h4, .inl (cJ, 1601, .inr (.inl g3)))]) hD hS hA [0, 1, 2, 3] rfl
          refine va_callv (va_runV (As := [.int 17, .int p1, .long y_278]) (rest := []) ⟨hx, hb, hml, hown, hts⟩ (c_s_X5_put l dC dI cB cI cJ cZ cP h0 h1 h2 g1 h3 g2 h4 g3 a0 (rg_mono ha0 (by decide) (by decide)) a1 h5 a9 a10 a11 a12 a13 17 p1 y_278 H.size) (cwV 3 hts (gd_V (List.mem_of_getElem? (i := 1) rfl) (List.mem_of_getElem? (i := 2) rfl) (List.mem_of_getElem? (i := 3) rfl) (List.mem_of_getElem? (i := 4) rfl) (gd_mono k_s_X5_put (fun _ h => List.mem_cons_of_mem _ (List.mem_append_right _ (List.mem_append_left _ h))))) rfl rfl rfl (by decide +kernel) ⟨Nat.le_of_ble_eq_true rfl, Nat.le_of_ble_eq_true rfl⟩) ⟨fun a U g mk q => by obtain ⟨q0, q1, qP, qK, qD⟩ := q; exact ⟨q0, q1, qP, va_K.moved (u := U) (U := U.calling g mk a) (Vm.Alike.refl U.vm) qK, qD⟩, va_recv hK hPc (ci := 5) (q0 := 0) rfl rfl, fun U hU hW => ⟨rfl, by rw [hU], by rw [hU]; exact hPc, va_K.moved hW.alike hK, hDc.weaken (fun _ _ _ _ => trivial)⟩⟩ rfl rfl hl.1 rfl (lv_room (Nat.le_of_ble_eq_true rfl)) dX5_splitNumber_84 ⟨Nat.le_of_ble_eq_true rfl, Nat.le_of_ble_eq_true rfl⟩) hS (fun q _ h => hFc q h) hFc (fun u t H1 locs ht hvm hw hB hz1 hk1 hS => ?_)
          obtain ⟨x_280, f_281, f_282, f_283, hx_280, hP1, hD1⟩ := hB
          rw [ht] at hP1
          obtain ⟨hP, hD⟩ := va_join (wr := [(h15, .inl (cB, 1600, .inl g12))]) (w1 := [(h0, .inr (5, [.ref h1, .ref h2, .ref h3, .ref h4, .int x_280, .int a1, .ref h5, .int a9, .int a10, .int a11, .int a12, .int a13])), (h2, .inl (cI, 1601, .inl f_281)), (h3, .inl (cI, 1601, .inl f_282)), (h4, .inl (cJ, 1601, .inr (.inl f_283)))]) hP hD [0, 1, 2, 3] [4] rfl rfl (by decide) (by decide) hk1 hFc hP1 hD1
          generalize H1 = H at hP hS ⊢
          replace hP : va_P (dC, dI) vwCl [(h15, .inl (cB, 1600, .inl g12)), (h0, .inr (5, [.ref h1, .ref h2, .ref h3, .ref h4, .int x_280, .int a1, .ref h5, .int a9, .int a10, .int a11, .int a12, .int a13])), (h2, .inl (cI, 1601, .inl f_281)), (h3, .inl (cI, 1601, .inl f_282)), (h4, .inl (cJ, 1601, .inr (.inl f_283)))] H := hP
          replace hD : va_D A [(h15, .inl (cB, 1600, .inl g12)), (h0, .inr (5, [.ref h1, .ref h2, .ref h3, .ref h4, .int x_280, .int a1, .ref h5, .int a9, .int a10, .int a11, .int a12, .int a13])), (h2, .inl (cI, 1601, .inl f_281)), (h3, .inl (cI, 1601, .inl f_282)), (h4, .inl (cJ, 1601, .inr (.inl f_283)))] := hD
          refine lv_iload hx hb dX5_splitNumber_87 (lv_at hl 0 rfl) ?_
          have hP9 := hP.sub (ws' := [(h0, .inr (5, [.ref h1, .ref h2, .ref h3, .ref h4, .int x_280, .int a1, .ref h5, .int a9, .int a10, .int a11, .int a12, .int a13])), (h2, .inl (cI, 1601, .inl f_281)), (h3, .inl (cI, 1601, .inl f_282)), (h4, .inl (cJ, 1601, .inr (.inl f_283))), (h15, .inl (cB, 1600, .inl g12))]) [1, 2, 3, 4, 0] rfl
          have hD9 := hD.sub (ws' := [(h0, .inr (5, [.ref h1, .ref h2, .ref h3, .ref h4, .int x_280, .int a1, .ref h5, .int a9, .int a10, .int a11, .int a12, .int a13])), (h2, .inl (cI, 1601, .inl f_281)), (h3, .inl (cI, 1601, .inl f_282)), (h4, .inl (cJ, 1601, .inr (.inl f_283))), (h15, .inl (cB, 1600, .inl g12))]) [1, 2, 3, 4, 0] (by decide) rfl
          exact W.iret (v := x_97) hx hb hr (fun t ht hW => ⟨⟨x_97, (), rfl, (rg_mono h_276 (by decide) (by decide)), ⟨x_280, f_281, f_282, f_283, (rg_mono hx_280 (by decide) (by decide)), by rw [ht]; exact hP9, hD9⟩⟩, hS.F ht⟩) hS.2.2 dX5_splitNumber_89
        · skip
          refine lv_aload_n hx hb dX5_splitNumber_57 rfl (lv_at hl 3 rfl) ?_
          refine lv_iload hx hb dX5_splitNumber_58 (lv_at hl 0 rfl) ?_
          refine va_bald hx hb hK hP 4 0 rfl rfl (rg_in (n := 1600) (rg_mono h_248 (by decide) (by decide))) dX5_splitNumber_60 ?_
          refine tp_v (.int x_251) (congrArg Value.int (ex_251.symm)) ?_
          have hPc := hP.sub (ws' := []) [] rfl
          have hDc := hD.sub (ws' := []) [] (by decide) rfl
          have hFc := va_free (wc := []) hD hS hA [] rfl
          refine va_calli (va_runS (As := [.int x_251]) (rest := []) ⟨hx, hb, hml, hown, hts⟩ (c_s_X5_isLetter l dC dI cB cI cJ cZ cP x_251 H.size) (va_cwS 1 hts (gd_S (List.mem_of_getElem? (i := 5) rfl) (List.mem_of_getElem? (i := 6) rfl) (List.mem_of_getElem? (i := 4) rfl) (gd_mono k_s_X5_isLetter (fun _ h => List.mem_cons_of_mem _ (List.mem_append_right _ (List.mem_append_right _ (List.mem_append_left _ h)))))) rfl rfl rfl (by decide +kernel) ⟨Nat.le_of_ble_eq_true rfl, Nat.le_of_ble_eq_true rfl⟩) ⟨fun a U g mk q => by obtain ⟨q0, q1, qP, qK, qD⟩ := q; exact ⟨q0, q1, qP, va_K.moved (u := U) (U := U.calling g mk a) (Vm.Alike.refl U.vm) qK, qD⟩, fun U hU hW => ⟨rfl, by rw [hU], by rw [hU]; exact hPc, va_K.moved hW.alike hK, hDc.weaken (fun _ _ _ _ => trivial)⟩⟩ rfl rfl hl.1 rfl (lv_room (Nat.le_of_ble_eq_true rfl)) dX5_splitNumber_61 ⟨Nat.le_of_ble_eq_true rfl, Nat.le_of_ble_eq_true rfl⟩) hS (fun q _ h => hFc q h) hFc (fun r_284 u t H1 locs ht hvm hw hB hz1 hk1 hS => ?_)
          obtain ⟨hP1, hD1⟩ := hB
          rw [ht] at hP1
          obtain ⟨hP, hD⟩ := va_join (wr := [(h0, .inr (5, [.ref h1, .ref h2, .ref h3, .ref h4, .int a0, .int a1, .ref h5, .int a9, .int a10, .int a11, .int a12, .int a13])), (h2, .inl (cI, 1601, .inl g1)), (h3, .inl (cI, 1601, .inl g2)), (h4, .inl (cJ, 1601, .inr (.inl g3))), (h15, .inl (cB, 1600, .inl g12))]) (w1 := []) hP hD [] [0, 1, 2, 3, 4] rfl rfl (by decide) (by decide) hk1 hFc hP1 hD1
          generalize H1 = H at hP hS ⊢
          replace hP : va_P (dC, dI) vwCl [(h0, .inr (5, [.ref h1, .ref h2, .ref h3, .ref h4, .int a0, .int a1, .ref h5, .int a9, .int a10, .int a11, .int a12, .int a13])), (h2, .inl (cI, 1601, .inl g1)), (h3, .inl (cI, 1601, .inl g2)), (h4, .inl (cJ, 1601, .inr (.inl g3))), (h15, .inl (cB, 1600, .inl g12))] H := hP
          replace hD : va_D A [(h0, .inr (5, [.ref h1, .ref h2, .ref h3, .ref h4, .int a0, .int a1, .ref h5, .int a9, .int a10, .int a11, .int a12, .int a13])), (h2, .inl (cI, 1601, .inl g1)), (h3, .inl (cI, 1601, .inl g2)), (h4, .inl (cJ, 1601, .inr (.inl g3))), (h15, .inl (cB, 1600, .inl g12))] := hD
          have hr_284 : rg (0) (1) r_284 := hw
          refine lv_if_eq (tgt := 77) hx hb dX5_splitNumber_64 (by decide) (fun c_285 => ?_) (fun c_285 => ?_)
          · skip
            have h_286 : rg (0) (0) r_284 := by have ha := hr_284; have hb_ := (rg_k (x := 0) (c := 0) (by decide)); simp only [rg, fa_lt, fa_le, fa_eq, (by decide : (0 : Int32).toInt = 0)] at ha hb_ c_285; simp only [rg]; omega
            refine lv_aload_n hx hb dX5_splitNumber_77 rfl (lv_at hl 2 rfl) ?_
            refine lv_bipush (v := 17) hx hb dX5_splitNumber_78 (by decide) ?_
            refine lv_iload_n hx hb dX5_splitNumber_80 rfl (lv_at hl 4 rfl) ?_
            refine lv_iload hx hb dX5_splitNumber_81 (lv_at hl 1 rfl) ?_
            refine lv_i2l hx hb dX5_splitNumber_83 rfl ?_
            refine lv_topl (fun y_287 ey_287 => ?_)
            clear ey_287
            have hPc := hP.sub (ws' := [(h0, .inr (5, [.ref h1, .ref h2, .ref h3, .ref h4, .int a0, .int a1, .ref h5, .int a9, .int a10, .int a11, .int a12, .int a13])), (h2, .inl (cI, 1601, .inl g1)), (h3, .inl (cI, 1601, .inl g2)), (h4, .inl (cJ, 1601, .inr (.inl g3)))]) [0, 1, 2, 3] rfl
            have hDc := hD.sub (ws' := [(h0, .inr (5, [.ref h1, .ref h2, .ref h3, .ref h4, .int a0, .int a1, .ref h5, .int a9, .int a10, .int a11, .int a12, .int a13])), (h2, .inl (cI, 1601, .inl g1)), (h3, .inl (cI, 1601, .inl g2)), (h4, .inl (cJ, 1601, .inr (.inl g3)))]) [0, 1, 2, 3] (by decide) rfl
            have hFc := va_free (wc := [(h0, .inr (5, [.ref h1, .ref h2, .ref h3, .ref h4, .int a0, .int a1, .ref h5, .int a9, .int a10, .int a11, .int a12, .int a13])), (h2, .inl (cI, 1601, .inl g1)), (h3, .inl (cI, 1601, .inl g2)), (h4, .inl (cJ, 1601, .inr (.inl g3)))]) hD hS hA [0, 1, 2, 3] rfl
            refine va_callv (va_runV (As := [.int 17, .int p1, .long y_287]) (rest := []) ⟨hx, hb, hml, hown, hts⟩ (c_s_X5_put l dC dI cB cI cJ cZ cP h0 h1 h2 g1 h3 g2 h4 g3 a0 (rg_mono ha0 (by decide) (by decide)) a1 h5 a9 a10 a11 a12 a13 17 p1 y_287 H.size) (cwV 3 hts (gd_V (List.mem_of_getElem? (i := 1) rfl) (List.mem_of_getElem? (i := 2) rfl) (List.mem_of_getElem? (i := 3) rfl) (List.mem_of_getElem? (i := 4) rfl) (gd_mono k_s_X5_put (fun _ h => List.mem_cons_of_mem _ (List.mem_append_right _ (List.mem_append_left _ h))))) rfl rfl rfl (by decide +kernel) ⟨Nat.le_of_ble_eq_true rfl, Nat.le_of_ble_eq_true rfl⟩) ⟨fun a U g mk q => by obtain ⟨q0, q1, qP, qK, qD⟩ := q; exact ⟨q0, q1, qP, va_K.moved (u := U) (U := U.calling g mk a) (Vm.Alike.refl U.vm) qK, qD⟩, va_recv hK hPc (ci := 5) (q0 := 0) rfl rfl, fun U hU hW => ⟨rfl, by rw [hU], by rw [hU]; exact hPc, va_K.moved hW.alike hK, hDc.weaken (fun _ _ _ _ => trivial)⟩⟩ rfl rfl hl.1 rfl (lv_room (Nat.le_of_ble_eq_true rfl)) dX5_splitNumber_84 ⟨Nat.le_of_ble_eq_true rfl, Nat.le_of_ble_eq_true rfl⟩) hS (fun q _ h => hFc q h) hFc (fun u t H1 locs ht hvm hw hB hz1 hk1 hS => ?_)
            obtain ⟨x_289, f_290, f_291, f_292, hx_289, hP1, hD1⟩ := hB
            rw [ht] at hP1
            obtain ⟨hP, hD⟩ := va_join (wr := [(h15, .inl (cB, 1600, .inl g12))]) (w1 := [(h0, .inr (5, [.ref h1, .ref h2, .ref h3, .ref h4, .int x_289, .int a1, .ref h5, .int a9, .int a10, .int a11, .int a12, .int a13])), (h2, .inl (cI, 1601, .inl f_290)), (h3, .inl (cI, 1601, .inl f_291)), (h4, .inl (cJ, 1601, .inr (.inl f_292)))]) hP hD [0, 1, 2, 3] [4] rfl rfl (by decide) (by decide) hk1 hFc hP1 hD1
            generalize H1 = H at hP hS ⊢
            replace hP : va_P (dC, dI) vwCl [(h15, .inl (cB, 1600, .inl g12)), (h0, .inr (5, [.ref h1, .ref h2, .ref h3, .ref h4, .int x_289, .int a1, .ref h5, .int a9, .int a10, .int a11, .int a12, .int a13])), (h2, .inl (cI, 1601, .inl f_290)), (h3, .inl (cI, 1601, .inl f_291)), (h4, .inl (cJ, 1601, .inr (.inl f_292)))] H := hP
            replace hD : va_D A [(h15, .inl (cB, 1600, .inl g12)), (h0, .inr (5, [.ref h1, .ref h2, .ref h3, .ref h4, .int x_289, .int a1, .ref h5, .int a9, .int a10, .int a11, .int a12, .int a13])), (h2, .inl (cI, 1601, .inl f_290)), (h3, .inl (cI, 1601, .inl f_291)), (h4, .inl (cJ, 1601, .inr (.inl f_292)))] := hD
            refine lv_iload hx hb dX5_splitNumber_87 (lv_at hl 0 rfl) ?_
            have hP9 := hP.sub (ws' := [(h0, .inr (5, [.ref h1, .ref h2, .ref h3, .ref h4, .int x_289, .int a1, .ref h5, .int a9, .int a10, .int a11, .int a12, .int a13])), (h2, .inl (cI, 1601, .inl f_290)), (h3, .inl (cI, 1601, .inl f_291)), (h4, .inl (cJ, 1601, .inr (.inl f_292))), (h15, .inl (cB, 1600, .inl g12))]) [1, 2, 3, 4, 0] rfl
            have hD9 := hD.sub (ws' := [(h0, .inr (5, [.ref h1, .ref h2, .ref h3, .ref h4, .int x_289, .int a1, .ref h5, .int a9, .int a10, .int a11, .int a12, .int a13])), (h2, .inl (cI, 1601, .inl f_290)), (h3, .inl (cI, 1601, .inl f_291)), (h4, .inl (cJ, 1601, .inr (.inl f_292))), (h15, .inl (cB, 1600, .inl g12))]) [1, 2, 3, 4, 0] (by decide) rfl
            exact W.iret (v := x_97) hx hb hr (fun t ht hW => ⟨⟨x_97, (), rfl, (rg_mono h_248 (by decide) (by decide)), ⟨x_289, f_290, f_291, f_292, (rg_mono hx_289 (by decide) (by decide)), by rw [ht]; exact hP9, hD9⟩⟩, hS.F ht⟩) hS.2.2 dX5_splitNumber_89
          · skip
            have h_293 : rg (1) (1) r_284 := by have ha := hr_284; have hb_ := (rg_k (x := 0) (c := 0) (by decide)); simp only [rg, fa_lt, fa_le, fa_eq, (by decide : (0 : Int32).toInt = 0)] at ha hb_ c_285; simp only [rg]; omega
            refine lv_aload_n hx hb dX5_splitNumber_67 rfl (lv_at hl 2 rfl) ?_
            refine lv_bipush (v := 29) hx hb dX5_splitNumber_68 (by decide) ?_
            refine lv_iload_n hx hb dX5_splitNumber_70 rfl (lv_at hl 4 rfl) ?_
            refine lv_lconst (v := 0) hx hb dX5_splitNumber_71 (by decide) ?_
            have hPc := hP.sub (ws' := [(h0, .inr (5, [.ref h1, .ref h2, .ref h3, .ref h4, .int a0, .int a1, .ref h5, .int a9, .int a10, .int a11, .int a12, .int a13])), (h2, .inl (cI, 1601, .inl g1)), (h3, .inl (cI, 1601, .inl g2)), (h4, .inl (cJ, 1601, .inr (.inl g3)))]) [0, 1, 2, 3] rfl
            have hDc := hD.sub (ws' := [(h0, .inr (5, [.ref h1, .ref h2, .ref h3, .ref h4, .int a0, .int a1, .ref h5, .int a9, .int a10, .int a11, .int a12, .int a13])), (h2, .inl (cI, 1601, .inl g1)), (h3, .inl (cI, 1601, .inl g2)), (h4, .inl (cJ, 1601, .inr (.inl g3)))]) [0, 1, 2, 3] (by decide) rfl
            have hFc := va_free (wc := [(h0, .inr (5, [.ref h1, .ref h2, .ref h3, .ref h4, .int a0, .int a1, .ref h5, .int a9, .int a10, .int a11, .int a12, .int a13])), (h2, .inl (cI, 1601, .inl g1)), (h3, .inl (cI, 1601, .inl g2)), (h4, .inl (cJ, 1601, .inr (.inl g3)))]) hD hS hA [0, 1, 2, 3] rfl
            refine va_callv (va_runV (As := [.int 29, .int p1, .long 0]) (rest := []) ⟨hx, hb, hml, hown, hts⟩ (c_s_X5_put l dC dI cB cI cJ cZ cP h0 h1 h2 g1 h3 g2 h4 g3 a0 (rg_mono ha0 (by decide) (by decide)) a1 h5 a9 a10 a11 a12 a13 29 p1 0 H.size) (cwV 3 hts (gd_V (List.mem_of_getElem? (i := 1) rfl) (List.mem_of_getElem? (i := 2) rfl) (List.mem_of_getElem? (i := 3) rfl) (List.mem_of_getElem? (i := 4) rfl) (gd_mono k_s_X5_put (fun _ h => List.mem_cons_of_mem _ (List.mem_append_right _ (List.mem_append_left _ h))))) rfl rfl rfl (by decide +kernel) ⟨Nat.le_of_ble_eq_true rfl, Nat.le_of_ble_eq_true rfl⟩) ⟨fun a U g mk q => by obtain ⟨q0, q1, qP, qK, qD⟩ := q; exact ⟨q0, q1, qP, va_K.moved (u := U) (U := U.calling g mk a) (Vm.Alike.refl U.vm) qK, qD⟩, va_recv hK hPc (ci := 5) (q0 := 0) rfl rfl, fun U hU hW => ⟨rfl, by rw [hU], by rw [hU]; exact hPc, va_K.moved hW.alike hK, hDc.weaken (fun _ _ _ _ => trivial)⟩⟩ rfl rfl hl.1 rfl (lv_room (Nat.le_of_ble_eq_true rfl)) dX5_splitNumber_72 ⟨Nat.le_of_ble_eq_true rfl, Nat.le_of_ble_eq_true rfl⟩) hS (fun q _ h => hFc q h) hFc (fun u t H1 locs ht hvm hw hB hz1 hk1 hS => ?_)
            obtain ⟨x_295, f_296, f_297, f_298, hx_295, hP1, hD1⟩ := hB
            rw [ht] at hP1
            obtain ⟨hP, hD⟩ := va_join (wr := [(h15, .inl (cB, 1600, .inl g12))]) (w1 := [(h0, .inr (5, [.ref h1, .ref h2, .ref h3, .ref h4, .int x_295, .int a1, .ref h5, .int a9, .int a10, .int a11, .int a12, .int a13])), (h2, .inl (cI, 1601, .inl f_296)), (h3, .inl (cI, 1601, .inl f_297)), (h4, .inl (cJ, 1601, .inr (.inl f_298)))]) hP hD [0, 1, 2, 3] [4] rfl rfl (by decide) (by decide) hk1 hFc hP1 hD1
            generalize H1 = H at hP hS ⊢
            replace hP : va_P (dC, dI) vwCl [(h15, .inl (cB, 1600, .inl g12)), (h0, .inr (5, [.ref h1, .ref h2, .ref h3, .ref h4, .int x_295, .int a1, .ref h5, .int a9, .int a10, .int a11, .int a12, .int a13])), (h2, .inl (cI, 1601, .inl f_296)), (h3, .inl (cI, 1601, .inl f_297)), (h4, .inl (cJ, 1601, .inr (.inl f_298)))] H := hP
            replace hD : va_D A [(h15, .inl (cB, 1600, .inl g12)), (h0, .inr (5, [.ref h1, .ref h2, .ref h3, .ref h4, .int x_295, .int a1, .ref h5, .int a9, .int a10, .int a11, .int a12, .int a13])), (h2, .inl (cI, 1601, .inl f_296)), (h3, .inl (cI, 1601, .inl f_297)), (h4, .inl (cJ, 1601, .inr (.inl f_298)))] := hD
            refine lv_iload_n hx hb dX5_splitNumber_75 rfl (lv_at hl 5 rfl) ?_
            have hP9 := hP.sub (ws' := [(h0, .inr (5, [.ref h1, .ref h2, .ref h3, .ref h4, .int x_295, .int a1, .ref h5, .int a9, .int a10, .int a11, .int a12, .int a13])), (h2, .inl (cI, 1601, .inl f_296)), (h3, .inl (cI, 1601, .inl f_297)), (h4, .inl (cJ, 1601, .inr (.inl f_298))), (h15, .inl (cB, 1600, .inl g12))]) [1, 2, 3, 4, 0] rfl
            have hD9 := hD.sub (ws' := [(h0, .inr (5, [.ref h1, .ref h2, .ref h3, .ref h4, .int x_295, .int a1, .ref h5, .int a9, .int a10, .int a11, .int a12, .int a13])), (h2, .inl (cI, 1601, .inl f_296)), (h3, .inl (cI, 1601, .inl f_297)), (h4, .inl (cJ, 1601, .inr (.inl f_298))), (h15, .inl (cB, 1600, .inl g12))]) [1, 2, 3, 4, 0] (by decide) rfl
            exact W.iret (v := p2) hx hb hr (fun t ht hW => ⟨⟨p2, (), rfl, (rg_mono h_250 (by decide) (by decide)), ⟨x_295, f_296, f_297, f_298, (rg_mono hx_295 (by decide) (by decide)), by rw [ht]; exact hP9, hD9⟩⟩, hS.F ht⟩) hS.2.2 dX5_splitNumber_76
    · skip
      have h_299 : rg (1) (1) r_252 := by have ha := hr_252; have hb_ := (rg_k (x := 0) (c := 0) (by decide)); simp only [rg, fa_lt, fa_le, fa_eq, (by decide : (0 : Int32).toInt = 0)] at ha hb_ c_253; simp only [rg]; omega
      refine lv_iload hx hb dX5_splitNumber_22 (lv_at hl 1 rfl) ?_
      refine lv_bipush (v := 10) hx hb dX5_splitNumber_24 (by decide) ?_
      refine lv_imul hx hb dX5_splitNumber_26 ?_
      refine lv_topi (fun x_300 ex_300 => ?_)
      refine lv_aload_n hx hb dX5_splitNumber_27 rfl (lv_at hl 3 rfl) ?_
      refine lv_iload hx hb dX5_splitNumber_28 (lv_at hl 0 rfl) ?_
      refine va_bald hx hb hK hP 4 0 rfl rfl (rg_in (n := 1600) (rg_mono h_248 (by decide) (by decide))) dX5_splitNumber_30 ?_
      refine tp_v (.int x_251) (congrArg Value.int (ex_251.symm)) ?_
      refine lv_iadd hx hb dX5_splitNumber_31 ?_
      refine lv_topi (fun x_301 ex_301 => ?_)
      refine lv_bipush (v := 48) hx hb dX5_splitNumber_32 (by decide) ?_
      refine lv_isub hx hb dX5_splitNumber_34 ?_
      refine lv_topi (fun x_302 ex_302 => ?_)
      refine lv_istore (lv' := [(4, .int x_302), (5, .int x_97), (0, .ref h0), (1, .ref h15), (2, .int p1), (3, .int p2)]) hx hb dX5_splitNumber_35 hl (by decide) rfl (fun ls hl => ?_)
      obtain ⟨x_303, ex_303⟩ : ∃ y : Int32, y = x_97 + Int32.ofInt (1) := ⟨_, rfl⟩
      have hx_303 : rg (1) (1600) x_303 := by rw [ex_303]; exact rg_mono (rg_add h_248 (rg_k (x := Int32.ofInt (1)) (c := 1) (by decide)) (by decide) (by decide)) (by decide) (by decide)
      have qx_303 : x_303.toInt = x_97.toInt + (1) := by rw [ex_303]; exact rg_addE h_248 (rg_k (x := Int32.ofInt (1)) (c := 1) (by decide)) (by decide) (by decide) (by decide)
      refine lv_iinc (v := x_303) (lv' := [(5, .int x_303), (4, .int x_302), (0, .ref h0), (1, .ref h15), (2, .int p1), (3, .int p2)]) hx hb dX5_splitNumber_37 hl (k := 1) rfl (ex_303.symm) (by decide) rfl (fun ls hl => ?_)
      clear ex_303
      refine lv_goto (tgt := 6) hx hb dX5_splitNumber_40 (by decide) ?_
      exact ih_201 (x_303, x_302) H locs ls ⟨hP.sub (ws' := [(h0, .inr (5, [.ref h1, .ref h2, .ref h3, .ref h4, .int a0, .int a1, .ref h5, .int a9, .int a10, .int a11, .int a12, .int a13])), (h2, .inl (cI, 1601, .inl g1)), (h3, .inl (cI, 1601, .inl g2)), (h4, .inl (cJ, 1601, .inr (.inl g3))), (h15, .inl (cB, 1600, .inl g12))]) [0, 1, 2, 3, 4] rfl, hD.sub (ws' := [(h0, .inr (5, [.ref h1, .ref h2, .ref h3, .ref h4, .int a0, .int a1, .ref h5, .int a9, .int a10, .int a11, .int a12, .int a13])), (h2, .inl (cI, 1601, .inl g1)), (h3, .inl (cI, 1601, .inl g2)), (h4, .inl (cJ, 1601, .inr (.inl g3))), (h15, .inl (cB, 1600, .inl g12))]) [0, 1, 2, 3, 4] (by decide) rfl, hS, lv_sub hl [0, 1, 2, 3, 4, 5] rfl, (rg_mono hx_303 (by decide) (by decide))⟩ (by show ((1600) - x_303.toInt).toNat < ((1600) - x_97.toInt).toNat; have ha := h_248; simp only [rg] at ha; omega)
def v_s_X5_withLetter : List Cond := Cond.code yX5_withLetter cX5_withLetter 3 (some .long) :: ([] ++ ([]))
theorem k_s_X5_withLetter : GoodIn lw_tbl v_s_X5_withLetter := gd_c (List.mem_of_getElem? (i := 306) (by decide +kernel)) rfl (goodIn_app (gd_nil) (gd_nil))
set_option maxHeartbeats 2000000 in
set_option maxRecDepth 100000 in
theorem c_s_X5_withLetter (l : Launch) (dC : Nat → ClassId) (dI : Nat → Nat → Nat) (cB cI cJ cZ cP : ClassId) (y0 : Int64) (p1 : Int32) (sz : Nat) : Met l yX5_withLetter v_s_X5_withLetter ({ frames := 0, cells := 0, slots := 0, locals := 0 }) (va_Pc [.long y0, .int p1] (fun U => U.heap.size = sz ∧ va_P (dC, dI) vwCl [] U.heap ∧ va_K (dC, dI) vwCl (ty5 cB cI cJ cZ cP) U ∧ va_D (fun _ => True) [])) (va_Ql (fun (r : Int64) (_ : Unit) => True) (fun _ t => va_P (dC, dI) vwCl [] t.heap ∧ va_D (va_A [] sz) []) (va_A [] sz)) 0 0 (va_A [] sz) := by
  refine Met.ofW (cc := cX5_withLetter) (maxL := 3) (ret := (some .long)) (by decide) rfl ?_
  intro p e s m args below meth c s₁ B hml hv
  obtain ⟨rfl, hsz, hP, hK, hD0⟩ := hv
  have hx := B.exec
  have hb := B.bytes
  have hr := B.returns
  have hts := atoms_spec (ws := v_s_X5_withLetter) B.pre
  have hown : s.vm.findClass RX5 = some m.cls := findClass_of_methodNamed B.named
  have hlocks := B.notSynchronized
  subst hsz
  have hD := hD0.self (sz := s.heap.size)
  generalize hAe : va_A [] s.heap.size = A at hD ⊢
  have hA : ∀ q : Nat, s.heap.size ≤ q → A q := fun q h => by rw [← hAe]; exact Or.inr h
  have hP : va_P (dC, dI) vwCl [] s.heap := hP
  have hl := lv_entry ([.long y0, .int p1]) (n := 3) (Nat.le_of_ble_eq_true rfl)
  rw [lg_entry_eq]
  generalize (lg_sl ([.long y0, .int p1]) ++ List.replicate (3 - (lg_sl ([.long y0, .int p1])).length) Slot.unset).toArray = ls at hl ⊢
  have hl : lv_has ls 3 [(0, .long y0), (2, .int p1)] := hl
  refine W_gen (A := A) hP (fun H locs hP hS => ?_)
  refine lv_lload_n hx hb dX5_withLetter_0 rfl (lv_at hl 0 rfl) ?_
  refine lv_iconst (v := 5) hx hb dX5_withLetter_1 (by decide) ?_
  refine lv_lshl hx hb dX5_withLetter_2 rfl ?_
  refine lv_topl (fun y_1 ey_1 => ?_)
  clear ey_1
  refine lv_iload_n hx hb dX5_withLetter_3 rfl (lv_at hl 1 rfl) ?_
  refine lv_bipush (v := 97) hx hb dX5_withLetter_4 (by decide) ?_
  refine lv_isub hx hb dX5_withLetter_6 ?_
  refine lv_topi (fun x_2 ex_2 => ?_)
  refine lv_iconst (v := 1) hx hb dX5_withLetter_7 (by decide) ?_
  refine lv_iadd hx hb dX5_withLetter_8 ?_
  refine lv_topi (fun x_3 ex_3 => ?_)
  refine lv_i2l hx hb dX5_withLetter_9 rfl ?_
  refine lv_topl (fun y_4 ey_4 => ?_)
  clear ey_4
  refine lv_lor hx hb dX5_withLetter_10 ?_
  refine lv_topl (fun y_5 ey_5 => ?_)
  clear ey_5
  have hP9 := hP.sub (ws' := []) [] rfl
  have hD9 := hD.sub (ws' := []) [] (by decide) rfl
  exact W.lret (v := y_5) hx hb hr (fun t ht hW => ⟨⟨y_5, (), rfl, trivial, ⟨by rw [ht]; exact hP9, hD9⟩⟩, hS.F ht⟩) hS.2.2 dX5_withLetter_11
def v_s_X5_splitWord : List Cond := Cond.code yX5_splitWord cX5_splitWord 7 (some .int) :: ([Cond.methodLink RX5 114 yX5_kindOf, Cond.instanceMethod yX5_kindOf, Cond.selects RX5 yX5_kindOf yX5_kindOf, Cond.initialized RX5, Cond.methodLink RX5 91 yX5_put, Cond.instanceMethod yX5_put, Cond.selects RX5 yX5_put yX5_put, Cond.methodLink RX5 95 yX5_isLetter, Cond.static yX5_isLetter, Cond.methodLink RX5 67 yX5_withLetter, Cond.static yX5_withLetter] ++ (v_s_X5_kindOf ++ (v_s_X5_put ++ (v_s_X5_isLetter ++ (v_s_X5_withLetter ++ ([]))))))
theorem k_s_X5_splitWord : GoodIn lw_tbl v_s_X5_splitWord := gd_c (List.mem_of_getElem? (i := 605) (by decide +kernel)) rfl (goodIn_app (gd_c (List.mem_of_getElem? (i := 610) (by decide +kernel)) rfl (gd_c (List.mem_of_getElem? (i := 612) (by decide +kernel)) rfl (gd_c (List.mem_of_getElem? (i := 6) (by decide +kernel)) rfl (gd_c (List.mem_of_getElem? (i := 131) (by decide +kernel)) rfl (gd_c (List.mem_of_getElem? (i := 606) (by decide +kernel)) rfl (gd_c (List.mem_of_getElem? (i := 608) (by decide +kernel)) rfl (gd_c (List.mem_of_getElem? (i := 5) (by decide +kernel)) rfl (gd_c (List.mem_of_getElem? (i := 599) (by decide +kernel)) rfl (gd_c (List.mem_of_getElem? (i := 600) (by decide +kernel)) rfl (gd_c (List.mem_of_getElem? (i := 304) (by decide +kernel)) rfl (gd_c (List.mem_of_getElem? (i := 305) (by decide +kernel)) rfl (gd_nil)))))))))))) (goodIn_app k_s_X5_kindOf (goodIn_app k_s_X5_put (goodIn_app k_s_X5_isLetter (goodIn_app k_s_X5_withLetter (gd_nil))))))
set_option maxHeartbeats 2000000 in
set_option maxRecDepth 100000 in
theorem c_s_X5_splitWord (l : Launch) (dC : Nat → ClassId) (dI : Nat → Nat → Nat) (cB cI cJ cZ cP : ClassId) (h0 : Nat) (h1 : Nat) (g0 : Nat → Int64) (h2 : Nat) (g1 : Nat → Int32) (h3 : Nat) (g2 : Nat → Int32) (h4 : Nat) (g3 : Nat → Int64) (a0 : Int32) (ha0 : rg (0) (1601) a0) (a1 : Int32) (h5 : Nat) (a9 : Int32) (a10 : Int32) (a11 : Int32) (a12 : Int32) (a13 : Int32) (h15 : Nat) (g12 : Nat → Int32) (p1 : Int32) (hp1 : rg (0) (1599) p1) (p2 : Int32) (hp2 : rg (0) (1600) p2) (sz : Nat) : Met l yX5_splitWord v_s_X5_splitWord ({ frames := 1, cells := 0, slots := 0, locals := 24 }) (va_Pc [.ref h0, .ref h15, .int p1, .int p2] (fun U => U.heap.size = sz ∧ va_P (dC, dI) vwCl [(h0, .inr (5, [.ref h1, .ref h2, .ref h3, .ref h4, .int a0, .int a1, .ref h5, .int a9, .int a10, .int a11, .int a12, .int a13])), (h1, .inl (cJ, 15, .inr (.inl g0))), (h2, .inl (cI, 1601, .inl g1)), (h3, .inl (cI, 1601, .inl g2)), (h4, .inl (cJ, 1601, .inr (.inl g3))), (h15, .inl (cB, 1600, .inl g12))] U.heap ∧ va_K (dC, dI) vwCl (ty5 cB cI cJ cZ cP) U ∧ va_D (fun _ => True) [(h0, .inr (5, [.ref h1, .ref h2, .ref h3, .ref h4, .int a0, .int a1, .ref h5, .int a9, .int a10, .int a11, .int a12, .int a13])), (h1, .inl (cJ, 15, .inr (.inl g0))), (h2, .inl (cI, 1601, .inl g1)), (h3, .inl (cI, 1601, .inl g2)), (h4, .inl (cJ, 1601, .inr (.inl g3))), (h15, .inl (cB, 1600, .inl g12))])) (va_Qi (fun (r : Int32) (u9 : Unit) => rg (0) (1600) r) (fun u9 t => ∃ (z0 : Int32) (z1 : Nat → Int32) (z2 : Nat → Int32) (z3 : Nat → Int64), rg (0) (1601) z0 ∧ va_P (dC, dI) vwCl [(h0, .inr (5, [.ref h1, .ref h2, .ref h3, .ref h4, .int z0, .int a1, .ref h5, .int a9, .int a10, .int a11, .int a12, .int a13])), (h1, .inl (cJ, 15, .inr (.inl g0))), (h2, .inl (cI, 1601, .inl z1)), (h3, .inl (cI, 1601, .inl z2)), (h4, .inl (cJ, 1601, .inr (.inl z3))), (h15, .inl (cB, 1600, .inl g12))] t.heap ∧ va_D (va_A [(h0, .inr (5, [.ref h1, .ref h2, .ref h3, .ref h4, .int a0, .int a1, .ref h5, .int a9, .int a10, .int a11, .int a12, .int a13])), (h1, .inl (cJ, 15, .inr (.inl g0))), (h2, .inl (cI, 1601, .inl g1)), (h3, .inl (cI, 1601, .inl g2)), (h4, .inl (cJ, 1601, .inr (.inl g3))), (h15, .inl (cB, 1600, .inl g12))] sz) [(h0, .inr (5, [.ref h1, .ref h2, .ref h3, .ref h4, .int z0, .int a1, .ref h5, .int a9, .int a10, .int a11, .int a12, .int a13])), (h1, .inl (cJ, 15, .inr (.inl g0))), (h2, .inl (cI, 1601, .inl z1)), (h3, .inl (cI, 1601, .inl z2)), (h4, .inl (cJ, 1601, .inr (.inl z3))), (h15, .inl (cB, 1600, .inl g12))]) (va_A [(h0, .inr (5, [.ref h1, .ref h2, .ref h3, .ref h4, .int a0, .int a1, .ref h5, .int a9, .int a10, .int a11, .int a12, .int a13])), (h1, .inl (cJ, 15, .inr (.inl g0))), (h2, .inl (cI, 1601, .inl g1)), (h3, .inl (cI, 1601, .inl g2)), (h4, .inl (cJ, 1601, .inr (.inl g3))), (h15, .inl (cB, 1600, .inl g12))] sz)) 0 0 (va_A [(h0, .inr (5, [.ref h1, .ref h2, .ref h3, .ref h4, .int a0, .int a1, .ref h5, .int a9, .int a10, .int a11, .int a12, .int a13])), (h1, .inl (cJ, 15, .inr (.inl g0))), (h2, .inl (cI, 1601, .inl g1)), (h3, .inl (cI, 1601, .inl g2)), (h4, .inl (cJ, 1601, .inr (.inl g3))), (h15, .inl (cB, 1600, .inl g12))] sz) := by
  refine Met.ofW (cc := cX5_splitWord) (maxL := 7) (ret := (some .int)) (by decide) rfl ?_
  intro p e s m args below meth c s₁ B hml hv
  obtain ⟨rfl, hsz, hP, hK, hD0⟩ := hv
  have hx := B.exec
  have hb := B.bytes
  have hr := B.returns
  have hts := atoms_spec (ws := v_s_X5_splitWord) B.pre
  have hown : s.vm.findClass RX5 = some m.cls := findClass_of_methodNamed B.named
  have hlocks := B.notSynchronized
  subst hsz
  have hD := hD0.self (sz := s.heap.size)
  generalize hAe : va_A [(h0, .inr (5, [.ref h1, .ref h2, .ref h3, .ref h4, .int a0, .int a1, .ref h5, .int a9, .int a10, .int a11, .int a12, .int a13])), (h1, .inl (cJ, 15, .inr (.inl g0))), (h2, .inl (cI, 1601, .inl g1)), (h3, .inl (cI, 1601, .inl g2)), (h4, .inl (cJ, 1601, .inr (.inl g3))), (h15, .inl (cB, 1600, .inl g12))] s.heap.size = A at hD ⊢
  have hA : ∀ q : Nat, s.heap.size ≤ q → A q := fun q h => by rw [← hAe]; exact Or.inr h
  have hP : va_P (dC, dI) vwCl [(h0, .inr (5, [.ref h1, .ref h2, .ref h3, .ref h4, .int a0, .int a1, .ref h5, .int a9, .int a10, .int a11, .int a12, .int a13])), (h1, .inl (cJ, 15, .inr (.inl g0))), (h2, .inl (cI, 1601, .inl g1)), (h3, .inl (cI, 1601, .inl g2)), (h4, .inl (cJ, 1601, .inr (.inl g3))), (h15, .inl (cB, 1600, .inl g12))] s.heap := hP
  have hl := lv_entry ([.ref h0, .ref h15, .int p1, .int p2]) (n := 7) (Nat.le_of_ble_eq_true rfl)
  rw [lg_entry_eq]
  generalize (lg_sl ([.ref h0, .ref h15, .int p1, .int p2]) ++ List.replicate (7 - (lg_sl ([.ref h0, .ref h15, .int p1, .int p2])).length) Slot.unset).toArray = ls at hl ⊢
  have hl : lv_has ls 7 [(0, .ref h0), (1, .ref h15), (2, .int p1), (3, .int p2)] := hl
  refine W_gen (A := A) hP (fun H locs hP hS => ?_)
  refine lv_lconst (v := 0) hx hb dX5_splitWord_0 (by decide) ?_
  refine lv_lstore (lv' := [(4, .long 0), (0, .ref h0), (1, .ref h15), (2, .int p1), (3, .int p2)]) hx hb dX5_splitWord_1 hl (by decide) rfl (fun ls hl => ?_)
  refine lv_iload_n hx hb dX5_splitWord_3 rfl (lv_at hl 3 rfl) ?_
  refine lv_istore (lv' := [(6, .int p1), (4, .long 0), (0, .ref h0), (1, .ref h15), (2, .int p1), (3, .int p2)]) hx hb dX5_splitWord_4 hl (by decide) rfl (fun ls hl => ?_)
  refine W_loopM (σ := Int32 × Int64) (fun u H locs ls => va_P (dC, dI) vwCl [(h0, .inr (5, [.ref h1, .ref h2, .ref h3, .ref h4, .int a0, .int a1, .ref h5, .int a9, .int a10, .int a11, .int a12, .int a13])), (h1, .inl (cJ, 15, .inr (.inl g0))), (h2, .inl (cI, 1601, .inl g1)), (h3, .inl (cI, 1601, .inl g2)), (h4, .inl (cJ, 1601, .inr (.inl g3))), (h15, .inl (cB, 1600, .inl g12))] H ∧ va_D A [(h0, .inr (5, [.ref h1, .ref h2, .ref h3, .ref h4, .int a0, .int a1, .ref h5, .int a9, .int a10, .int a11, .int a12, .int a13])), (h1, .inl (cJ, 15, .inr (.inl g0))), (h2, .inl (cI, 1601, .inl g1)), (h3, .inl (cI, 1601, .inl g2)), (h4, .inl (cJ, 1601, .inr (.inl g3))), (h15, .inl (cB, 1600, .inl g12))] ∧ va_S A s.heap H locs ∧ lv_has ls 7 [(6, .int u.1), (4, .long u.2), (0, .ref h0), (1, .ref h15), (2, .int p1), (3, .int p2)] ∧ rg (0) (1600) u.1) (fun u => ((1600) - u.1.toInt).toNat) 6 [] ?_ (p1, 0) H locs ls ⟨hP, hD, hS, hl, (rg_mono hp1 (by decide) (by decide))⟩
  rintro ⟨x_41, y_42⟩ H locs ls ⟨hP, hD, hS, hl, hx_41⟩ ih_84
  replace hP : va_P (dC, dI) vwCl [(h0, .inr (5, [.ref h1, .ref h2, .ref h3, .ref h4, .int a0, .int a1, .ref h5, .int a9, .int a10, .int a11, .int a12, .int a13])), (h1, .inl (cJ, 15, .inr (.inl g0))), (h2, .inl (cI, 1601, .inl g1)), (h3, .inl (cI, 1601, .inl g2)), (h4, .inl (cJ, 1601, .inr (.inl g3))), (h15, .inl (cB, 1600, .inl g12))] H := hP
  replace hD : va_D A [(h0, .inr (5, [.ref h1, .ref h2, .ref h3, .ref h4, .int a0, .int a1, .ref h5, .int a9, .int a10, .int a11, .int a12, .int a13])), (h1, .inl (cJ, 15, .inr (.inl g0))), (h2, .inl (cI, 1601, .inl g1)), (h3, .inl (cI, 1601, .inl g2)), (h4, .inl (cJ, 1601, .inr (.inl g3))), (h15, .inl (cB, 1600, .inl g12))] := hD
  replace hl : lv_has ls 7 [(6, .int x_41), (4, .long y_42), (0, .ref h0), (1, .ref h15), (2, .int p1), (3, .int p2)] := hl
  replace hx_41 : rg (0) (1600) x_41 := hx_41
  refine lv_iload hx hb dX5_splitWord_6 (lv_at hl 0 rfl) ?_
  refine lv_iload_n hx hb dX5_splitWord_8 rfl (lv_at hl 5 rfl) ?_
  refine lv_icmp_ge (tgt := 39) hx hb dX5_splitWord_9 (by decide) (fun c_85 => ?_) (fun c_85 => ?_)
  · skip
    refine lv_iload hx hb dX5_splitWord_39 (lv_at hl 0 rfl) ?_
    refine lv_iload_n hx hb dX5_splitWord_41 rfl (lv_at hl 4 rfl) ?_
    refine lv_isub hx hb dX5_splitWord_42 ?_
    refine lv_topi (fun x_86 ex_86 => ?_)
    have hx_86 : rg (-1599) (1600) x_86 := by rw [ex_86]; exact rg_mono (rg_sub hx_41 hp1 (by decide) (by decide)) (by decide) (by decide)
    have qx_86 : x_86.toInt = x_41.toInt - p1.toInt := by rw [ex_86]; exact rg_subQ hx_41 hp1 (by decide) (by decide)
    refine lv_bipush (v := 8) hx hb dX5_splitWord_43 (by decide) ?_
    refine lv_icmp_le (tgt := 58) hx hb dX5_splitWord_45 (by decide) (fun c_87 => ?_) (fun c_87 => ?_)
    · skip
      have h_88 : rg (-1599) (8) x_86 := by have ha := hx_86; have hb_ := (rg_k (x := 8) (c := 8) (by decide)); simp only [rg, fa_lt, fa_le, fa_eq, (by decide : (8 : Int32).toInt = 8)] at ha hb_ c_87; simp only [rg]; omega
      refine lv_aload_n hx hb dX5_splitWord_58 rfl (lv_at hl 2 rfl) ?_
      refine lv_aload_n hx hb dX5_splitWord_59 rfl (lv_at hl 2 rfl) ?_
      refine lv_lload hx hb dX5_splitWord_60 (lv_at hl 1 rfl) ?_
      have hPc := hP.sub (ws' := [(h0, .inr (5, [.ref h1, .ref h2, .ref h3, .ref h4, .int a0, .int a1, .ref h5, .int a9, .int a10, .int a11, .int a12, .int a13])), (h1, .inl (cJ, 15, .inr (.inl g0)))]) [0, 1] rfl
      have hDc := hD.sub (ws' := [(h0, .inr (5, [.ref h1, .ref h2, .ref h3, .ref h4, .int a0, .int a1, .ref h5, .int a9, .int a10, .int a11, .int a12, .int a13])), (h1, .inl (cJ, 15, .inr (.inl g0)))]) [0, 1] (by decide) rfl
      have hFc := va_free (wc := [(h0, .inr (5, [.ref h1, .ref h2, .ref h3, .ref h4, .int a0, .int a1, .ref h5, .int a9, .int a10, .int a11, .int a12, .int a13])), (h1, .inl (cJ, 15, .inr (.inl g0)))]) hD hS hA [0, 1] rfl
      refine va_calli (va_runV (As := [.long y_42]) (rest := [.ref h0]) ⟨hx, hb, hml, hown, hts⟩ (c_s_X5_kindOf l dC dI cB cI cJ cZ cP h0 h1 g0 h2 h3 h4 a0 a1 h5 a9 a10 a11 a12 a13 y_42 H.size) (cwV 1 hts (gd_V (List.mem_of_getElem? (i := 1) rfl) (List.mem_of_getElem? (i := 2) rfl) (List.mem_of_getElem? (i := 3) rfl) (List.mem_of_getElem? (i := 4) rfl) (gd_mono k_s_X5_kindOf (fun _ h => List.mem_cons_of_mem _ (List.mem_append_right _ (List.mem_append_left _ h))))) rfl rfl rfl (by decide +kernel) ⟨Nat.le_of_ble_eq_true rfl, Nat.le_of_ble_eq_true rfl⟩) ⟨fun a U g mk q => by obtain ⟨q0, q1, qP, qK, qD⟩ := q; exact ⟨q0, q1, qP, va_K.moved (u := U) (U := U.calling g mk a) (Vm.Alike.refl U.vm) qK, qD⟩, va_recv hK hPc (ci := 5) (q0 := 0) rfl rfl, fun U hU hW => ⟨rfl, by rw [hU], by rw [hU]; exact hPc, va_K.moved hW.alike hK, hDc.weaken (fun _ _ _ _ => trivial)⟩⟩ rfl rfl hl.1 rfl (lv_room (Nat.le_of_ble_eq_true rfl)) dX5_splitWord_62 ⟨Nat.le_of_ble_eq_true rfl, Nat.le_of_ble_eq_true rfl⟩) hS (fun q _ h => hFc q h) hFc (fun r_89 u t H1 locs ht hvm hw hB hz1 hk1 hS => ?_)
      obtain ⟨hP1, hD1⟩ := hB
      rw [ht] at hP1
      obtain ⟨hP, hD⟩ := va_join (wr := [(h2, .inl (cI, 1601, .inl g1)), (h3, .inl (cI, 1601, .inl g2)), (h4, .inl (cJ, 1601, .inr (.inl g3))), (h15, .inl (cB, 1600, .inl g12))]) (w1 := [(h0, .inr (5, [.ref h1, .ref h2, .ref h3, .ref h4, .int a0, .int a1, .ref h5, .int a9, .int a10, .int a11, .int a12, .int a13])), (h1, .inl (cJ, 15, .inr (.inl g0)))]) hP hD [0, 1] [2, 3, 4, 5] rfl rfl (by decide) (by decide) hk1 hFc hP1 hD1
      generalize H1 = H at hP hS ⊢
      replace hP : va_P (dC, dI) vwCl [(h2, .inl (cI, 1601, .inl g1)), (h3, .inl (cI, 1601, .inl g2)), (h4, .inl (cJ, 1601, .inr (.inl g3))), (h15, .inl (cB, 1600, .inl g12)), (h0, .inr (5, [.ref h1, .ref h2, .ref h3, .ref h4, .int a0, .int a1, .ref h5, .int a9, .int a10, .int a11, .int a12, .int a13])), (h1, .inl (cJ, 15, .inr (.inl g0)))] H := hP
      replace hD : va_D A [(h2, .inl (cI, 1601, .inl g1)), (h3, .inl (cI, 1601, .inl g2)), (h4, .inl (cJ, 1601, .inr (.inl g3))), (h15, .inl (cB, 1600, .inl g12)), (h0, .inr (5, [.ref h1, .ref h2, .ref h3, .ref h4, .int a0, .int a1, .ref h5, .int a9, .int a10, .int a11, .int a12, .int a13])), (h1, .inl (cJ, 15, .inr (.inl g0)))] := hD
      have hr_89 : rg (1) (16) r_89 := hw
      refine lv_iload_n hx hb dX5_splitWord_65 rfl (lv_at hl 4 rfl) ?_
      refine lv_lload hx hb dX5_splitWord_66 (lv_at hl 1 rfl) ?_
      have hPc := hP.sub (ws' := [(h0, .inr (5, [.ref h1, .ref h2, .ref h3, .ref h4, .int a0, .int a1, .ref h5, .int a9, .int a10, .int a11, .int a12, .int a13])), (h2, .inl (cI, 1601, .inl g1)), (h3, .inl (cI, 1601, .inl g2)), (h4, .inl (cJ, 1601, .inr (.inl g3)))]) [4, 0, 1, 2] rfl
      have hDc := hD.sub (ws' := [(h0, .inr (5, [.ref h1, .ref h2, .ref h3, .ref h4, .int a0, .int a1, .ref h5, .int a9, .int a10, .int a11, .int a12, .int a13])), (h2, .inl (cI, 1601, .inl g1)), (h3, .inl (cI, 1601, .inl g2)), (h4, .inl (cJ, 1601, .inr (.inl g3)))]) [4, 0, 1, 2] (by decide) rfl
      have hFc := va_free (wc := [(h0, .inr (5, [.ref h1, .ref h2, .ref h3, .ref h4, .int a0, .int a1, .ref h5, .int a9, .int a10, .int a11, .int a12, .int a13])), (h2, .inl (cI, 1601, .inl g1)), (h3, .inl (cI, 1601, .inl g2)), (h4, .inl (cJ, 1601, .inr (.inl g3)))]) hD hS hA [4, 0, 1, 2] rfl
      refine va_callv (va_runV (As := [.int r_89, .int p1, .long y_42]) (rest := []) ⟨hx, hb, hml, hown, hts⟩ (c_s_X5_put l dC dI cB cI cJ cZ cP h0 h1 h2 g1 h3 g2 h4 g3 a0 (rg_mono ha0 (by decide) (by decide)) a1 h5 a9 a10 a11 a12 a13 r_89 p1 y_42 H.size) (cwV 3 hts (gd_V (List.mem_of_getElem? (i := 5) rfl) (List.mem_of_getElem? (i := 6) rfl) (List.mem_of_getElem? (i := 7) rfl) (List.mem_of_getElem? (i := 4) rfl) (gd_mono k_s_X5_put (fun _ h => List.mem_cons_of_mem _ (List.mem_append_right _ (List.mem_append_right _ (List.mem_append_left _ h)))))) rfl rfl rfl (by decide +kernel) ⟨Nat.le_of_ble_eq_true rfl, Nat.le_of_ble_eq_true rfl⟩) ⟨fun a U g mk q => by obtain ⟨q0, q1, qP, qK, qD⟩ := q; exact ⟨q0, q1, qP, va_K.moved (u := U) (U := U.calling g mk a) (Vm.Alike.refl U.vm) qK, qD⟩, va_recv hK hPc (ci := 5) (q0 := 0) rfl rfl, fun U hU hW => ⟨rfl, by rw [hU], by rw [hU]; exact hPc, va_K.moved hW.alike hK, hDc.weaken (fun _ _ _ _ => trivial)⟩⟩ rfl rfl hl.1 rfl (lv_room (Nat.le_of_ble_eq_true rfl)) dX5_splitWord_68 ⟨Nat.le_of_ble_eq_true rfl, Nat.le_of_ble_eq_true rfl⟩) hS (fun q _ h => hFc q h) hFc (fun u t H1 locs ht hvm hw hB hz1 hk1 hS => ?_)
      obtain ⟨x_91, f_92, f_93, f_94, hx_91, hP1, hD1⟩ := hB
      rw [ht] at hP1
      obtain ⟨hP, hD⟩ := va_join (wr := [(h15, .inl (cB, 1600, .inl g12)), (h1, .inl (cJ, 15, .inr (.inl g0)))]) (w1 := [(h0, .inr (5, [.ref h1, .ref h2, .ref h3, .ref h4, .int x_91, .int a1, .ref h5, .int a9, .int a10, .int a11, .int a12, .int a13])), (h2, .inl (cI, 1601, .inl f_92)), (h3, .inl (cI, 1601, .inl f_93)), (h4, .inl (cJ, 1601, .inr (.inl f_94)))]) hP hD [4, 0, 1, 2] [3, 5] rfl rfl (by decide) (by decide) hk1 hFc hP1 hD1
      generalize H1 = H at hP hS ⊢
      replace hP : va_P (dC, dI) vwCl [(h15, .inl (cB, 1600, .inl g12)), (h1, .inl (cJ, 15, .inr (.inl g0))), (h0, .inr (5, [.ref h1, .ref h2, .ref h3, .ref h4, .int x_91, .int a1, .ref h5, .int a9, .int a10, .int a11, .int a12, .int a13])), (h2, .inl (cI, 1601, .inl f_92)), (h3, .inl (cI, 1601, .inl f_93)), (h4, .inl (cJ, 1601, .inr (.inl f_94)))] H := hP
      replace hD : va_D A [(h15, .inl (cB, 1600, .inl g12)), (h1, .inl (cJ, 15, .inr (.inl g0))), (h0, .inr (5, [.ref h1, .ref h2, .ref h3, .ref h4, .int x_91, .int a1, .ref h5, .int a9, .int a10, .int a11, .int a12, .int a13])), (h2, .inl (cI, 1601, .inl f_92)), (h3, .inl (cI, 1601, .inl f_93)), (h4, .inl (cJ, 1601, .inr (.inl f_94)))] := hD
      refine lv_iload hx hb dX5_splitWord_71 (lv_at hl 0 rfl) ?_
      have hP9 := hP.sub (ws' := [(h0, .inr (5, [.ref h1, .ref h2, .ref h3, .ref h4, .int x_91, .int a1, .ref h5, .int a9, .int a10, .int a11, .int a12, .int a13])), (h1, .inl (cJ, 15, .inr (.inl g0))), (h2, .inl (cI, 1601, .inl f_92)), (h3, .inl (cI, 1601, .inl f_93)), (h4, .inl (cJ, 1601, .inr (.inl f_94))), (h15, .inl (cB, 1600, .inl g12))]) [2, 1, 3, 4, 5, 0] rfl
      have hD9 := hD.sub (ws' := [(h0, .inr (5, [.ref h1, .ref h2, .ref h3, .ref h4, .int x_91, .int a1, .ref h5, .int a9, .int a10, .int a11, .int a12, .int a13])), (h1, .inl (cJ, 15, .inr (.inl g0))), (h2, .inl (cI, 1601, .inl f_92)), (h3, .inl (cI, 1601, .inl f_93)), (h4, .inl (cJ, 1601, .inr (.inl f_94))), (h15, .inl (cB, 1600, .inl g12))]) [2, 1, 3, 4, 5, 0] (by decide) rfl
      exact W.iret (v := x_41) hx hb hr (fun t ht hW => ⟨⟨x_41, (), rfl, (rg_mono hx_41 (by decide) (by decide)), ⟨x_91, f_92, f_93, f_94, (rg_mono hx_91 (by decide) (by decide)), by rw [ht]; exact hP9, hD9⟩⟩, hS.F ht⟩) hS.2.2 dX5_splitWord_73
    · skip
      have h_95 : rg (9) (1600) x_86 := by have ha := hx_86; have hb_ := (rg_k (x := 8) (c := 8) (by decide)); simp only [rg, fa_lt, fa_le, fa_eq, (by decide : (8 : Int32).toInt = 8)] at ha hb_ c_87; simp only [rg]; omega
      refine lv_aload_n hx hb dX5_splitWord_48 rfl (lv_at hl 2 rfl) ?_
      refine lv_bipush (v := 29) hx hb dX5_splitWord_49 (by decide) ?_
      refine lv_iload_n hx hb dX5_splitWord_51 rfl (lv_at hl 4 rfl) ?_
      refine lv_lconst (v := 0) hx hb dX5_splitWord_52 (by decide) ?_
      have hPc := hP.sub (ws' := [(h0, .inr (5, [.ref h1, .ref h2, .ref h3, .ref h4, .int a0, .int a1, .ref h5, .int a9, .int a10, .int a11, .int a12, .int a13])), (h2, .inl (cI, 1601, .inl g1)), (h3, .inl (cI, 1601, .inl g2)), (h4, .inl (cJ, 1601, .inr (.inl g3)))]) [0, 2, 3, 4] rfl
      have hDc := hD.sub (ws' := [(h0, .inr (5, [.ref h1, .ref h2, .ref h3, .ref h4, .int a0, .int a1, .ref h5, .int a9, .int a10, .int a11, .int a12, .int a13])), (h2, .inl (cI, 1601, .inl g1)), (h3, .inl (cI, 1601, .inl g2)), (h4, .inl (cJ, 1601, .inr (.inl g3)))]) [0, 2, 3, 4] (by decide) rfl
      have hFc := va_free (wc := [(h0, .inr (5, [.ref h1, .ref h2, .ref h3, .ref h4, .int a0, .int a1, .ref h5, .int a9, .int a10, .int a11, .int a12, .int a13])), (h2, .inl (cI, 1601, .inl g1)), (h3, .inl (cI, 1601, .inl g2)), (h4, .inl (cJ, 1601, .inr (.inl g3)))]) hD hS hA [0, 2, 3, 4] rfl
      refine va_callv (va_runV (As := [.int 29, .int p1, .long 0]) (rest := []) ⟨hx, hb, hml, hown, hts⟩ (c_s_X5_put l dC dI cB cI cJ cZ cP h0 h1 h2 g1 h3 g2 h4 g3 a0 (rg_mono ha0 (by decide) (by decide)) a1 h5 a9 a10 a11 a12 a13 29 p1 0 H.size) (cwV 3 hts (gd_V (List.mem_of_getElem? (i := 5) rfl) (List.mem_of_getElem? (i := 6) rfl) (List.mem_of_getElem? (i := 7) rfl) (List.mem_of_getElem? (i := 4) rfl) (gd_mono k_s_X5_put (fun _ h => List.mem_cons_of_mem _ (List.mem_append_right _ (List.mem_append_right _ (List.mem_append_left _ h)))))) rfl rfl rfl (by decide +kernel) ⟨Nat.le_of_ble_eq_true rfl, Nat.le_of_ble_eq_true rfl⟩) ⟨fun a U g mk q => by obtain ⟨q0, q1, qP, qK, qD⟩ := q; exact ⟨q0, q1, qP, va_K.moved (u := U) (U := U.calling g mk a) (Vm.Alike.refl U.vm) qK, qD⟩, va_recv hK hPc (ci := 5) (q0 := 0) rfl rfl, fun U hU hW => ⟨rfl, by rw [hU], by rw [hU]; exact hPc, va_K.moved hW.alike hK, hDc.weaken (fun _ _ _ _ => trivial)⟩⟩ rfl rfl hl.1 rfl (lv_room (Nat.le_of_ble_eq_true rfl)) dX5_splitWord_53 ⟨Nat.le_of_ble_eq_true rfl, Nat.le_of_ble_eq_true rfl⟩) hS (fun q _ h => hFc q h) hFc (fun u t H1 locs ht hvm hw hB hz1 hk1 hS => ?_)
      obtain ⟨x_97, f_98, f_99, f_100, hx_97, hP1, hD1⟩ := hB
      rw [ht] at hP1
      obtain ⟨hP, hD⟩ := va_join (wr := [(h1, .inl (cJ, 15, .inr (.inl g0))), (h15, .inl (cB, 1600, .inl g12))]) (w1 := [(h0, .inr (5, [.ref h1, .ref h2, .ref h3, .ref h4, .int x_97, .int a1, .ref h5, .int a9, .int a10, .int a11, .int a12, .int a13])), (h2, .inl (cI, 1601, .inl f_98)), (h3, .inl (cI, 1601, .inl f_99)), (h4, .inl (cJ, 1601, .inr (.inl f_100)))]) hP hD [0, 2, 3, 4] [1, 5] rfl rfl (by decide) (by decide) hk1 hFc hP1 hD1
      generalize H1 = H at hP hS ⊢
      replace hP : va_P (dC, dI) vwCl [(h1, .inl (cJ, 15, .inr (.inl g0))), (h15, .inl (cB, 1600, .inl g12)), (h0, .inr (5, [.ref h1, .ref h2, .ref h3, .ref h4, .int x_97, .int a1, .ref h5, .int a9, .int a10, .int a11, .int a12, .int a13])), (h2, .inl (cI, 1601, .inl f_98)), (h3, .inl (cI, 1601, .inl f_99)), (h4, .inl (cJ, 1601, .inr (.inl f_100)))] H := hP
      replace hD : va_D A [(h1, .inl (cJ, 15, .inr (.inl g0))), (h15, .inl (cB, 1600, .inl g12)), (h0, .inr (5, [.ref h1, .ref h2, .ref h3, .ref h4, .int x_97, .int a1, .ref h5, .int a9, .int a10, .int a11, .int a12, .int a13])), (h2, .inl (cI, 1601, .inl f_98)), (h3, .inl (cI, 1601, .inl f_99)), (h4, .inl (cJ, 1601, .inr (.inl f_100)))] := hD
      refine lv_iload_n hx hb dX5_splitWord_56 rfl (lv_at hl 5 rfl) ?_
      have hP9 := hP.sub (ws' := [(h0, .inr (5, [.ref h1, .ref h2, .ref h3, .ref h4, .int x_97, .int a1, .ref h5, .int a9, .int a10, .int a11, .int a12, .int a13])), (h1, .inl (cJ, 15, .inr (.inl g0))), (h2, .inl (cI, 1601, .inl f_98)), (h3, .inl (cI, 1601, .inl f_99)), (h4, .inl (cJ, 1601, .inr (.inl f_100))), (h15, .inl (cB, 1600, .inl g12))]) [2, 0, 3, 4, 5, 1] rfl
      have hD9 := hD.sub (ws' := [(h0, .inr (5, [.ref h1, .ref h2, .ref h3, .ref h4, .int x_97, .int a1, .ref h5, .int a9, .int a10, .int a11, .int a12, .int a13])), (h1, .inl (cJ, 15, .inr (.inl g0))), (h2, .inl (cI, 1601, .inl f_98)), (h3, .inl (cI, 1601, .inl f_99)), (h4, .inl (cJ, 1601, .inr (.inl f_100))), (h15, .inl (cB, 1600, .inl g12))]) [2, 0, 3, 4, 5, 1] (by decide) rfl
      exact W.iret (v := p2) hx hb hr (fun t ht hW => ⟨⟨p2, (), rfl, (rg_mono hp2 (by decide) (by decide)), ⟨x_97, f_98, f_99, f_100, (rg_mono hx_97 (by decide) (by decide)), by rw [ht]; exact hP9, hD9⟩⟩, hS.F ht⟩) hS.2.2 dX5_splitWord_57
  · skip
    have h_101 : rg (0) (1599) x_41 := by have ha := hx_41; have hb_ := hp2; simp only [rg, fa_lt, fa_le, fa_eq] at ha hb_ c_85; simp only [rg]; omega
    have h_102 : rg (1) (1600) p2 := by have ha := h_101; have hb_ := hp2; have hc_ := c_85; simp only [rg, fa_lt, fa_le, fa_eq] at ha hb_ hc_; simp only [rg]; omega
    have h_103 : rg (1) (1600) p2 := by have ha := hx_41; have hb_ := hp2; simp only [rg, fa_lt, fa_le, fa_eq] at ha hb_ c_85; simp only [rg]; omega
    refine lv_aload_n hx hb dX5_splitWord_12 rfl (lv_at hl 3 rfl) ?_
    refine lv_iload hx hb dX5_splitWord_13 (lv_at hl 0 rfl) ?_
    refine va_bald hx hb hK hP 5 0 rfl rfl (rg_in (n := 1600) (rg_mono h_101 (by decide) (by decide))) dX5_splitWord_15 ?_
    refine lv_topi (fun x_104 ex_104 => ?_)
    have hPc := hP.sub (ws' := []) [] rfl
    have hDc := hD.sub (ws' := []) [] (by decide) rfl
    have hFc := va_free (wc := []) hD hS hA [] rfl
    refine va_calli (va_runS (As := [.int x_104]) (rest := []) ⟨hx, hb, hml, hown, hts⟩ (c_s_X5_isLetter l dC dI cB cI cJ cZ cP x_104 H.size) (va_cwS 1 hts (gd_S (List.mem_of_getElem? (i := 8) rfl) (List.mem_of_getElem? (i := 9) rfl) (List.mem_of_getElem? (i := 4) rfl) (gd_mono k_s_X5_isLetter (fun _ h => List.mem_cons_of_mem _ (List.mem_append_right _ (List.mem_append_right _ (List.mem_append_right _ (List.mem_append_left _ h))))))) rfl rfl rfl (by decide +kernel) ⟨Nat.le_of_ble_eq_true rfl, Nat.le_of_ble_eq_true rfl⟩) ⟨fun a U g mk q => by obtain ⟨q0, q1, qP, qK, qD⟩ := q; exact ⟨q0, q1, qP, va_K.moved (u := U) (U := U.calling g mk a) (Vm.Alike.refl U.vm) qK, qD⟩, fun U hU hW => ⟨rfl, by rw [hU], by rw [hU]; exact hPc, va_K.moved hW.alike hK, hDc.weaken (fun _ _ _ _ => trivial)⟩⟩ rfl rfl hl.1 rfl (lv_room (Nat.le_of_ble_eq_true rfl)) dX5_splitWord_16 ⟨Nat.le_of_ble_eq_true rfl, Nat.le_of_ble_eq_true rfl⟩) hS (fun q _ h => hFc q h) hFc (fun r_105 u t H1 locs ht hvm hw hB hz1 hk1 hS => ?_)
    obtain ⟨hP1, hD1⟩ := hB
    rw [ht] at hP1
    obtain ⟨hP, hD⟩ := va_join (wr := [(h0, .inr (5, [.ref h1, .ref h2, .ref h3, .ref h4, .int a0, .int a1, .ref h5, .int a9, .int a10, .int a11, .int a12, .int a13])), (h1, .inl (cJ, 15, .inr (.inl g0))), (h2, .inl (cI, 1601, .inl g1)), (h3, .inl (cI, 1601, .inl g2)), (h4, .inl (cJ, 1601, .inr (.inl g3))), (h15, .inl (cB, 1600, .inl g12))]) (w1 := []) hP hD [] [0, 1, 2, 3, 4, 5] rfl rfl (by decide) (by decide) hk1 hFc hP1 hD1
    generalize H1 = H at hP hS ⊢
    replace hP : va_P (dC, dI) vwCl [(h0, .inr (5, [.ref h1, .ref h2, .ref h3, .ref h4, .int a0, .int a1, .ref h5, .int a9, .int a10, .int a11, .int a12, .int a13])), (h1, .inl (cJ, 15, .inr (.inl g0))), (h2, .inl (cI, 1601, .inl g1)), (h3, .inl (cI, 1601, .inl g2)), (h4, .inl (cJ, 1601, .inr (.inl g3))), (h15, .inl (cB, 1600, .inl g12))] H := hP
    replace hD : va_D A [(h0, .inr (5, [.ref h1, .ref h2, .ref h3, .ref h4, .int a0, .int a1, .ref h5, .int a9, .int a10, .int a11, .int a12, .int a13])), (h1, .inl (cJ, 15, .inr (.inl g0))), (h2, .inl (cI, 1601, .inl g1)), (h3, .inl (cI, 1601, .inl g2)), (h4, .inl (cJ, 1601, .inr (.inl g3))), (h15, .inl (cB, 1600, .inl g12))] := hD
    have hr_105 : rg (0) (1) r_105 := hw
    refine lv_if_eq (tgt := 39) hx hb dX5_splitWord_19 (by decide) (fun c_106 => ?_) (fun c_106 => ?_)
    · skip
      have h_107 : rg (0) (0) r_105 := by have ha := hr_105; have hb_ := (rg_k (x := 0) (c := 0) (by decide)); simp only [rg, fa_lt, fa_le, fa_eq, (by decide : (0 : Int32).toInt = 0)] at ha hb_ c_106; simp only [rg]; omega
      refine lv_iload hx hb dX5_splitWord_39 (lv_at hl 0 rfl) ?_
      refine lv_iload_n hx hb dX5_splitWord_41 rfl (lv_at hl 4 rfl) ?_
      refine lv_isub hx hb dX5_splitWord_42 ?_
      refine lv_topi (fun x_108 ex_108 => ?_)
      have hx_108 : rg (-1599) (1599) x_108 := by rw [ex_108]; exact rg_mono (rg_sub h_101 hp1 (by decide) (by decide)) (by decide) (by decide)
      have qx_108 : x_108.toInt = x_41.toInt - p1.toInt := by rw [ex_108]; exact rg_subQ h_101 hp1 (by decide) (by decide)
      refine lv_bipush (v := 8) hx hb dX5_splitWord_43 (by decide) ?_
      refine lv_icmp_le (tgt := 58) hx hb dX5_splitWord_45 (by decide) (fun c_109 => ?_) (fun c_109 => ?_)
      · skip
        have h_110 : rg (-1599) (8) x_108 := by have ha := hx_108; have hb_ := (rg_k (x := 8) (c := 8) (by decide)); simp only [rg, fa_lt, fa_le, fa_eq, (by decide : (8 : Int32).toInt = 8)] at ha hb_ c_109; simp only [rg]; omega
        refine lv_aload_n hx hb dX5_splitWord_58 rfl (lv_at hl 2 rfl) ?_
        refine lv_aload_n hx hb dX5_splitWord_59 rfl (lv_at hl 2 rfl) ?_
        refine lv_lload hx hb dX5_splitWord_60 (lv_at hl 1 rfl) ?_
        have hPc := hP.sub (ws' := [(h0, .inr (5, [.ref h1, .ref h2, .ref h3, .ref h4, .int a0, .int a1, .ref h5, .int a9, .int a10, .int a11, .int a12, .int a13])), (h1, .inl (cJ, 15, .inr (.inl g0)))]) [0, 1] rfl
        have hDc := hD.sub (ws' := [(h0, .inr (5, [.ref h1, .ref h2, .ref h3, .ref h4, .int a0, .int a1, .ref h5, .int a9, .int a10, .int a11, .int a12, .int a13])), (h1, .inl (cJ, 15, .inr (.inl g0)))]) [0, 1] (by decide) rfl
        have hFc := va_free (wc := [(h0, .inr (5, [.ref h1, .ref h2, .ref h3, .ref h4, .int a0, .int a1, .ref h5, .int a9, .int a10, .int a11, .int a12, .int a13])), (h1, .inl (cJ, 15, .inr (.inl g0)))]) hD hS hA [0, 1] rfl
        refine va_calli (va_runV (As := [.long y_42]) (rest := [.ref h0]) ⟨hx, hb, hml, hown, hts⟩ (c_s_X5_kindOf l dC dI cB cI cJ cZ cP h0 h1 g0 h2 h3 h4 a0 a1 h5 a9 a10 a11 a12 a13 y_42 H.size) (cwV 1 hts (gd_V (List.mem_of_getElem? (i := 1) rfl) (List.mem_of_getElem? (i := 2) rfl) (List.mem_of_getElem? (i := 3) rfl) (List.mem_of_getElem? (i := 4) rfl) (gd_mono k_s_X5_kindOf (fun _ h => List.mem_cons_of_mem _ (List.mem_append_right _ (List.mem_append_left _ h))))) rfl rfl rfl (by decide +kernel) ⟨Nat.le_of_ble_eq_true rfl, Nat.le_of_ble_eq_true rfl⟩) ⟨fun a U g mk q => by obtain ⟨q0, q1, qP, qK, qD⟩ := q; exact ⟨q0, q1, qP, va_K.moved (u := U) (U := U.calling g mk a) (Vm.Alike.refl U.vm) qK, qD⟩, va_recv hK hPc (ci := 5) (q0 := 0) rfl rfl, fun U hU hW => ⟨rfl, by rw [hU], by rw [hU]; exact hPc, va_K.moved hW.alike hK, hDc.weaken (fun _ _ _ _ => trivial)⟩⟩ rfl rfl hl.1 rfl (lv_room (Nat.le_of_ble_eq_true rfl)) dX5_splitWord_62 ⟨Nat.le_of_ble_eq_true rfl, Nat.le_of_ble_eq_true rfl⟩) hS (fun q _ h => hFc q h) hFc (fun r_111 u t H1 locs ht hvm hw hB hz1 hk1 hS => ?_)
        obtain ⟨hP1, hD1⟩ := hB
        rw [ht] at hP1
        obtain ⟨hP, hD⟩ := va_join (wr := [(h2, .inl (cI, 1601, .inl g1)), (h3, .inl (cI, 1601, .inl g2)), (h4, .inl (cJ, 1601, .inr (.inl g3))), (h15, .inl (cB, 1600, .inl g12))]) (w1 := [(h0, .inr (5, [.ref h1, .ref h2, .ref h3, .ref h4, .int a0, .int a1, .ref h5, .int a9, .int a10, .int a11, .int a12, .int a13])), (h1, .inl (cJ, 15, .inr (.inl g0)))]) hP hD [0, 1] [2, 3, 4, 5] rfl rfl (by decide) (by decide) hk1 hFc hP1 hD1
        generalize H1 = H at hP hS ⊢
        replace hP : va_P (dC, dI) vwCl [(h2, .inl (cI, 1601, .inl g1)), (h3, .inl (cI, 1601, .inl g2)), (h4, .inl (cJ, 1601, .inr (.inl g3))), (h15, .inl (cB, 1600, .inl g12)), (h0, .inr (5, [.ref h1, .ref h2, .ref h3, .ref h4, .int a0, .int a1, .ref h5, .int a9, .int a10, .int a11, .int a12, .int a13])), (h1, .inl (cJ, 15, .inr (.inl g0)))] H := hP
        replace hD : va_D A [(h2, .inl (cI, 1601, .inl g1)), (h3, .inl (cI, 1601, .inl g2)), (h4, .inl (cJ, 1601, .inr (.inl g3))), (h15, .inl (cB, 1600, .inl g12)), (h0, .inr (5, [.ref h1, .ref h2, .ref h3, .ref h4, .int a0, .int a1, .ref h5, .int a9, .int a10, .int a11, .int a12, .int a13])), (h1, .inl (cJ, 15, .inr (.inl g0)))] := hD
        have hr_111 : rg (1) (16) r_111 := hw
        refine lv_iload_n hx hb dX5_splitWord_65 rfl (lv_at hl 4 rfl) ?_
        refine lv_lload hx hb dX5_splitWord_66 (lv_at hl 1 rfl) ?_
        have hPc := hP.sub (ws' := [(h0, .inr (5, [.ref h1, .ref h2, .ref h3, .ref h4, .int a0, .int a1, .ref h5, .int a9, .int a10, .int a11, .int a12, .int a13])), (h2, .inl (cI, 1601, .inl g1)), (h3, .inl (cI, 1601, .inl g2)), (h4, .inl (cJ, 1601, .inr (.inl g3)))]) [4, 0, 1, 2] rfl
        have hDc := hD.sub (ws' := [(h0, .inr (5, [.ref h1, .ref h2, .ref h3, .ref h4, .int a0, .int a1, .ref h5, .int a9, .int a10, .int a11, .int a12, .int a13])), (h2, .inl (cI, 1601, .inl g1)), (h3, .inl (cI, 1601, .inl g2)), (h4, .inl (cJ, 1601, .inr (.inl g3)))]) [4, 0, 1, 2] (by decide) rfl
        have hFc := va_free (wc := [(h0, .inr (5, [.ref h1, .ref h2, .ref h3, .ref h4, .int a0, .int a1, .ref h5, .int a9, .int a10, .int a11, .int a12, .int a13])), (h2, .inl (cI, 1601, .inl g1)), (h3, .inl (cI, 1601, .inl g2)), (h4, .inl (cJ, 1601, .inr (.inl g3)))]) hD hS hA [4, 0, 1, 2] rfl
        refine va_callv (va_runV (As := [.int r_111, .int p1, .long y_42]) (rest := []) ⟨hx, hb, hml, hown, hts⟩ (c_s_X5_put l dC dI cB cI cJ cZ cP h0 h1 h2 g1 h3 g2 h4 g3 a0 (rg_mono ha0 (by decide) (by decide)) a1 h5 a9 a10 a11 a12 a13 r_111 p1 y_42 H.size) (cwV 3 hts (gd_V (List.mem_of_getElem? (i := 5) rfl) (List.mem_of_getElem? (i := 6) rfl) (List.mem_of_getElem? (i := 7) rfl) (List.mem_of_getElem? (i := 4) rfl) (gd_mono k_s_X5_put (fun _ h => List.mem_cons_of_mem _ (List.mem_append_right _ (List.mem_append_right _ (List.mem_append_left _ h)))))) rfl rfl rfl (by decide +kernel) ⟨Nat.le_of_ble_eq_true rfl, Nat.le_of_ble_eq_true rfl⟩) ⟨fun a U g mk q => by obtain ⟨q0, q1, qP, qK, qD⟩ := q; exact ⟨q0, q1, qP, va_K.moved (u := U) (U := U.calling g mk a) (Vm.Alike.refl U.vm) qK, qD⟩, va_recv hK hPc (ci := 5) (q0 := 0) rfl rfl, fun U hU hW => ⟨rfl, by rw [hU], by rw [hU]; exact hPc, va_K.moved hW.alike hK, hDc.weaken (fun _ _ _ _ => trivial)⟩⟩ rfl rfl hl.1 rfl (lv_room (Nat.le_of_ble_eq_true rfl)) dX5_splitWord_68 ⟨Nat.le_of_ble_eq_true rfl, Nat.le_of_ble_eq_true rfl⟩) hS (fun q _ h => hFc q h) hFc (fun u t H1 locs ht hvm hw hB hz1 hk1 hS => ?_)
        obtain ⟨x_113, f_114, f_115, f_116, hx_113, hP1, hD1⟩ := hB
        rw [ht] at hP1
        obtain ⟨hP, hD⟩ := va_join (wr := [(h15, .inl (cB, 1600, .inl g12)), (h1, .inl (cJ, 15, .inr (.inl g0)))]) (w1 := [(h0, .inr (5, [.ref h1, .ref h2, .ref h3, .ref h4, .int x_113, .int a1, .ref h5, .int a9, .int a10, .int a11, .int a12, .int a13])), (h2, .inl (cI, 1601, .inl f_114)), (h3, .inl (cI, 1601, .inl f_115)), (h4, .inl (cJ, 1601, .inr (.inl f_116)))]) hP hD [4, 0, 1, 2] [3, 5] rfl rfl (by decide) (by decide) hk1 hFc hP1 hD1
        generalize H1 = H at hP hS ⊢
        replace hP : va_P (dC, dI) vwCl [(h15, .inl (cB, 1600, .inl g12)), (h1, .inl (cJ, 15, .inr (.inl g0))), (h0, .inr (5, [.ref h1, .ref h2, .ref h3, .ref h4, .int x_113, .int a1, .ref h5, .int a9, .int a10, .int a11, .int a12, .int a13])), (h2, .inl (cI, 1601, .inl f_114)), (h3, .inl (cI, 1601, .inl f_115)), (h4, .inl (cJ, 1601, .inr (.inl f_116)))] H := hP
        replace hD : va_D A [(h15, .inl (cB, 1600, .inl g12)), (h1, .inl (cJ, 15, .inr (.inl g0))), (h0, .inr (5, [.ref h1, .ref h2, .ref h3, .ref h4, .int x_113, .int a1, .ref h5, .int a9, .int a10, .int a11, .int a12, .int a13])), (h2, .inl (cI, 1601, .inl f_114)), (h3, .inl (cI, 1601, .inl f_115)), (h4, .inl (cJ, 1601, .inr (.inl f_116)))] := hD
        refine lv_iload hx hb dX5_splitWord_71 (lv_at hl 0 rfl) ?_
        have hP9 := hP.sub (ws' := [(h0, .inr (5, [.ref h1, .ref h2, .ref h3, .ref h4, .int x_113, .int a1, .ref h5, .int a9, .int a10, .int a11, .int a12, .int a13])), (h1, .inl (cJ, 15, .inr (.inl g0))), (h2, .inl (cI, 1601, .inl f_114)), (h3, .inl (cI, 1601, .inl f_115)), (h4, .inl (cJ, 1601, .inr (.inl f_116))), (h15, .inl (cB, 1600, .inl g12))]) [2, 1, 3, 4, 5, 0] rfl
        have hD9 := hD.sub (ws' := [(h0, .inr (5, [.ref h1, .ref h2, .ref h3, .ref h4, .int x_113, .int a1, .ref h5, .int a9, .int a10, .int a11, .int a12, .int a13])), (h1, .inl (cJ, 15, .inr (.inl g0))), (h2, .inl (cI, 1601, .inl f_114)), (h3, .inl (cI, 1601, .inl f_115)), (h4, .inl (cJ, 1601, .inr (.inl f_116))), (h15, .inl (cB, 1600, .inl g12))]) [2, 1, 3, 4, 5, 0] (by decide) rfl
        exact W.iret (v := x_41) hx hb hr (fun t ht hW => ⟨⟨x_41, (), rfl, (rg_mono h_101 (by decide) (by decide)), ⟨x_113, f_114, f_115, f_116, (rg_mono hx_113 (by decide) (by decide)), by rw [ht]; exact hP9, hD9⟩⟩, hS.F ht⟩) hS.2.2 dX5_splitWord_73
      · skip
        have h_117 : rg (9) (1599) x_108 := by have ha := hx_108; have hb_ := (rg_k (x := 8) (c := 8) (by decide)); simp only [rg, fa_lt, fa_le, fa_eq, (by decide : (8 : Int32).toInt = 8)] at ha hb_ c_109; simp only [rg]; omega
        refine lv_aload_n hx hb dX5_splitWord_48 rfl (lv_at hl 2 rfl) ?_
        refine lv_bipush (v := 29) hx hb dX5_splitWord_49 (by decide) ?_
        refine lv_iload_n hx hb dX5_splitWord_51 rfl (lv_at hl 4 rfl) ?_
        refine lv_lconst (v := 0) hx hb dX5_splitWord_52 (by decide) ?_
        have hPc := hP.sub (ws' := [(h0, .inr (5, [.ref h1, .ref h2, .ref h3, .ref h4, .int a0, .int a1, .ref h5, .int a9, .int a10, .int a11, .int a12, .int a13])), (h2, .inl (cI, 1601, .inl g1)), (h3, .inl (cI, 1601, .inl g2)), (h4, .inl (cJ, 1601, .inr (.inl g3)))]) [0, 2, 3, 4] rfl
        have hDc := hD.sub (ws' := [(h0, .inr (5, [.ref h1, .ref h2, .ref h3, .ref h4, .int a0, .int a1, .ref h5, .int a9, .int a10, .int a11, .int a12, .int a13])), (h2, .inl (cI, 1601, .inl g1)), (h3, .inl (cI, 1601, .inl g2)), (h4, .inl (cJ, 1601, .inr (.inl g3)))]) [0, 2, 3, 4] (by decide) rfl
        have hFc := va_free (wc := [(h0, .inr (5, [.ref h1, .ref h2, .ref h3, .ref h4, .int a0, .int a1, .ref h5, .int a9, .int a10, .int a11, .int a12, .int a13])), (h2, .inl (cI, 1601, .inl g1)), (h3, .inl (cI, 1601, .inl g2)), (h4, .inl (cJ, 1601, .inr (.inl g3)))]) hD hS hA [0, 2, 3, 4] rfl
        refine va_callv (va_runV (As := [.int 29, .int p1, .long 0]) (rest := []) ⟨hx, hb, hml, hown, hts⟩ (c_s_X5_put l dC dI cB cI cJ cZ cP h0 h1 h2 g1 h3 g2 h4 g3 a0 (rg_mono ha0 (by decide) (by decide)) a1 h5 a9 a10 a11 a12 a13 29 p1 0 H.size) (cwV 3 hts (gd_V (List.mem_of_getElem? (i := 5) rfl) (List.mem_of_getElem? (i := 6) rfl) (List.mem_of_getElem? (i := 7) rfl) (List.mem_of_getElem? (i := 4) rfl) (gd_mono k_s_X5_put (fun _ h => List.mem_cons_of_mem _ (List.mem_append_right _ (List.mem_append_right _ (List.mem_append_left _ h)))))) rfl rfl rfl (by decide +kernel) ⟨Nat.le_of_ble_eq_true rfl, Nat.le_of_ble_eq_true rfl⟩) ⟨fun a U g mk q => by obtain ⟨q0, q1, qP, qK, qD⟩ := q; exact ⟨q0, q1, qP, va_K.moved (u := U) (U := U.calling g mk a) (Vm.Alike.refl U.vm) qK, qD⟩, va_recv hK hPc (ci := 5) (q0 := 0) rfl rfl, fun U hU hW => ⟨rfl, by rw [hU], by rw [hU]; exact hPc, va_K.moved hW.alike hK, hDc.weaken (fun _ _ _ _ => trivial)⟩⟩ rfl rfl hl.1 rfl (lv_room (Nat.le_of_ble_eq_true rfl)) dX5_splitWord_53 ⟨Nat.le_of_ble_eq_true rfl, Nat.le_of_ble_eq_true rfl⟩) hS (fun q _ h => hFc q h) hFc (fun u t H1 locs ht hvm hw hB hz1 hk1 hS => ?_)
        obtain ⟨x_119, f_120, f_121, f_122, hx_119, hP1, hD1⟩ := hB
        rw [ht] at hP1
        obtain ⟨hP, hD⟩ := va_join (wr := [(h1, .inl (cJ, 15, .inr (.inl g0))), (h15, .inl (cB, 1600, .inl g12))]) (w1 := [(h0, .inr (5, [.ref h1, .ref h2, .ref h3, .ref h4, .int x_119, .int a1, .ref h5, .int a9, .int a10, .int a11, .int a12, .int a13])), (h2, .inl (cI, 1601, .inl f_120)), (h3, .inl (cI, 1601, .inl f_121)), (h4, .inl (cJ, 1601, .inr (.inl f_122)))]) hP hD [0, 2, 3, 4] [1, 5] rfl rfl (by decide) (by decide) hk1 hFc hP1 hD1
        generalize H1 = H at hP hS ⊢
        replace hP : va_P (dC, dI) vwCl [(h1, .inl (cJ, 15, .inr (.inl g0))), (h15, .inl (cB, 1600, .inl g12)), (h0, .inr (5, [.ref h1, .ref h2, .ref h3, .ref h4, .int x_119, .int a1, .ref h5, .int a9, .int a10, .int a11, .int a12, .int a13])), (h2, .inl (cI, 1601, .inl f_120)), (h3, .inl (cI, 1601, .inl f_121)), (h4, .inl (cJ, 1601, .inr (.inl f_122)))] H := hP
        replace hD : va_D A [(h1, .inl (cJ, 15, .inr (.inl g0))), (h15, .inl (cB, 1600, .inl g12)), (h0, .inr (5, [.ref h1, .ref h2, .ref h3, .ref h4, .int x_119, .int a1, .ref h5, .int a9, .int a10, .int a11, .int a12, .int a13])), (h2, .inl (cI, 1601, .inl f_120)), (h3, .inl (cI, 1601, .inl f_121)), (h4, .inl (cJ, 1601, .inr (.inl f_122)))] := hD
        refine lv_iload_n hx hb dX5_splitWord_56 rfl (lv_at hl 5 rfl) ?_
        have hP9 := hP.sub (ws' := [(h0, .inr (5, [.ref h1, .ref h2, .ref h3, .ref h4, .int x_119, .int a1, .ref h5, .int a9, .int a10, .int a11, .int a12, .int a13])), (h1, .inl (cJ, 15, .inr (.inl g0))), (h2, .inl (cI, 1601, .inl f_120)), (h3, .inl (cI, 1601, .inl f_121)), (h4, .inl (cJ, 1601, .inr (.inl f_122))), (h15, .inl (cB, 1600, .inl g12))]) [2, 0, 3, 4, 5, 1] rfl
        have hD9 := hD.sub (ws' := [(h0, .inr (5, [.ref h1, .ref h2, .ref h3, .ref h4, .int x_119, .int a1, .ref h5, .int a9, .int a10, .int a11, .int a12, .int a13])), (h1, .inl (cJ, 15, .inr (.inl g0))), (h2, .inl (cI, 1601, .inl f_120)), (h3, .inl (cI, 1601, .inl f_121)), (h4, .inl (cJ, 1601, .inr (.inl f_122))), (h15, .inl (cB, 1600, .inl g12))]) [2, 0, 3, 4, 5, 1] (by decide) rfl
        exact W.iret (v := p2) hx hb hr (fun t ht hW => ⟨⟨p2, (), rfl, (rg_mono h_103 (by decide) (by decide)), ⟨x_119, f_120, f_121, f_122, (rg_mono hx_119 (by decide) (by decide)), by rw [ht]; exact hP9, hD9⟩⟩, hS.F ht⟩) hS.2.2 dX5_splitWord_57
    · skip
      have h_123 : rg (1) (1) r_105 := by have ha := hr_105; have hb_ := (rg_k (x := 0) (c := 0) (by decide)); simp only [rg, fa_lt, fa_le, fa_eq, (by decide : (0 : Int32).toInt = 0)] at ha hb_ c_106; simp only [rg]; omega
      refine lv_lload hx hb dX5_splitWord_22 (lv_at hl 1 rfl) ?_
      refine lv_aload_n hx hb dX5_splitWord_24 rfl (lv_at hl 3 rfl) ?_
      refine lv_iload hx hb dX5_splitWord_25 (lv_at hl 0 rfl) ?_
      refine va_bald hx hb hK hP 5 0 rfl rfl (rg_in (n := 1600) (rg_mono h_101 (by decide) (by decide))) dX5_splitWord_27 ?_
      refine tp_v (.int x_104) (congrArg Value.int (ex_104.symm)) ?_
      have hPc := hP.sub (ws' := []) [] rfl
      have hDc := hD.sub (ws' := []) [] (by decide) rfl
      have hFc := va_free (wc := []) hD hS hA [] rfl
      refine va_calll (va_runS (As := [.long y_42, .int x_104]) (rest := []) ⟨hx, hb, hml, hown, hts⟩ (c_s_X5_withLetter l dC dI cB cI cJ cZ cP y_42 x_104 H.size) (va_cwS 2 hts (gd_S (List.mem_of_getElem? (i := 10) rfl) (List.mem_of_getElem? (i := 11) rfl) (List.mem_of_getElem? (i := 4) rfl) (gd_mono k_s_X5_withLetter (fun _ h => List.mem_cons_of_mem _ (List.mem_append_right _ (List.mem_append_right _ (List.mem_append_right _ (List.mem_append_right _ (List.mem_append_left _ h)))))))) rfl rfl rfl (by decide +kernel) ⟨Nat.le_of_ble_eq_true rfl, Nat.le_of_ble_eq_true rfl⟩) ⟨fun a U g mk q => by obtain ⟨q0, q1, qP, qK, qD⟩ := q; exact ⟨q0, q1, qP, va_K.moved (u := U) (U := U.calling g mk a) (Vm.Alike.refl U.vm) qK, qD⟩, fun U hU hW => ⟨rfl, by rw [hU], by rw [hU]; exact hPc, va_K.moved hW.alike hK, hDc.weaken (fun _ _ _ _ => trivial)⟩⟩ rfl rfl hl.1 rfl (lv_room (Nat.le_of_ble_eq_true rfl)) dX5_splitWord_28 ⟨Nat.le_of_ble_eq_true rfl, Nat.le_of_ble_eq_true rfl⟩) hS (fun q _ h => hFc q h) hFc (fun r_124 u t H1 locs ht hvm hw hB hz1 hk1 hS => ?_)
      obtain ⟨hP1, hD1⟩ := hB
      rw [ht] at hP1
      obtain ⟨hP, hD⟩ := va_join (wr := [(h0, .inr (5, [.ref h1, .ref h2, .ref h3, .ref h4, .int a0, .int a1, .ref h5, .int a9, .int a10, .int a11, .int a12, .int a13])), (h1, .inl (cJ, 15, .inr (.inl g0))), (h2, .inl (cI, 1601, .inl g1)), (h3, .inl (cI, 1601, .inl g2)), (h4, .inl (cJ, 1601, .inr (.inl g3))), (h15, .inl (cB, 1600, .inl g12))]) (w1 := []) hP hD [] [0, 1, 2, 3, 4, 5] rfl rfl (by decide) (by decide) hk1 hFc hP1 hD1
      generalize H1 = H at hP hS ⊢
      replace hP : va_P (dC, dI) vwCl [(h0, .inr (5, [.ref h1, .ref h2, .ref h3, .ref h4, .int a0, .int a1, .ref h5, .int a9, .int a10, .int a11, .int a12, .int a13])), (h1, .inl (cJ, 15, .inr (.inl g0))), (h2, .inl (cI, 1601, .inl g1)), (h3, .inl (cI, 1601, .inl g2)), (h4, .inl (cJ, 1601, .inr (.inl g3))), (h15, .inl (cB, 1600, .inl g12))] H := hP
      replace hD : va_D A [(h0, .inr (5, [.ref h1, .ref h2, .ref h3, .ref h4, .int a0, .int a1, .ref h5, .int a9, .int a10, .int a11, .int a12, .int a13])), (h1, .inl (cJ, 15, .inr (.inl g0))), (h2, .inl (cI, 1601, .inl g1)), (h3, .inl (cI, 1601, .inl g2)), (h4, .inl (cJ, 1601, .inr (.inl g3))), (h15, .inl (cB, 1600, .inl g12))] := hD
      refine lv_lstore (lv' := [(4, .long r_124), (6, .int x_41), (0, .ref h0), (1, .ref h15), (2, .int p1), (3, .int p2)]) hx hb dX5_splitWord_31 hl (by decide) rfl (fun ls hl => ?_)
      obtain ⟨x_125, ex_125⟩ : ∃ y : Int32, y = x_41 + Int32.ofInt (1) := ⟨_, rfl⟩
      have hx_125 : rg (1) (1600) x_125 := by rw [ex_125]; exact rg_mono (rg_add h_101 (rg_k (x := Int32.ofInt (1)) (c := 1) (by decide)) (by decide) (by decide)) (by decide) (by decide)
      have qx_125 : x_125.toInt = x_41.toInt + (1) := by rw [ex_125]; exact rg_addE h_101 (rg_k (x := Int32.ofInt (1)) (c := 1) (by decide)) (by decide) (by decide) (by decide)
      refine lv_iinc (v := x_125) (lv' := [(6, .int x_125), (4, .long r_124), (0, .ref h0), (1, .ref h15), (2, .int p1), (3, .int p2)]) hx hb dX5_splitWord_33 hl (k := 1) rfl (ex_125.symm) (by decide) rfl (fun ls hl => ?_)
      clear ex_125
      refine lv_goto (tgt := 6) hx hb dX5_splitWord_36 (by decide) ?_
      exact ih_84 (x_125, r_124) H locs ls ⟨hP.sub (ws' := [(h0, .inr (5, [.ref h1, .ref h2, .ref h3, .ref h4, .int a0, .int a1, .ref h5, .int a9, .int a10, .int a11, .int a12, .int a13])), (h1, .inl (cJ, 15, .inr (.inl g0))), (h2, .inl (cI, 1601, .inl g1)), (h3, .inl (cI, 1601, .inl g2)), (h4, .inl (cJ, 1601, .inr (.inl g3))), (h15, .inl (cB, 1600, .inl g12))]) [0, 1, 2, 3, 4, 5] rfl, hD.sub (ws' := [(h0, .inr (5, [.ref h1, .ref h2, .ref h3, .ref h4, .int a0, .int a1, .ref h5, .int a9, .int a10, .int a11, .int a12, .int a13])), (h1, .inl (cJ, 15, .inr (.inl g0))), (h2, .inl (cI, 1601, .inl g1)), (h3, .inl (cI, 1601, .inl g2)), (h4, .inl (cJ, 1601, .inr (.inl g3))), (h15, .inl (cB, 1600, .inl g12))]) [0, 1, 2, 3, 4, 5] (by decide) rfl, hS, lv_sub hl [0, 1, 2, 3, 4, 5] rfl, (rg_mono hx_125 (by decide) (by decide))⟩ (by show ((1600) - x_125.toInt).toNat < ((1600) - x_41.toInt).toNat; have ha := h_101; simp only [rg] at ha; omega)
def v_s_X6_clear : List Cond := Cond.code yX6_clear cX6_clear 1 none :: ([Cond.fieldLink RX6 19 "MayRings$Valley" "bears" "[I", Cond.methodLink RX6 49 yJ7_fill_53178, Cond.static yJ7_fill_53178, Cond.initialized RJ7, Cond.fieldLink RX6 22 "MayRings$Valley" "quarrels" "[I", Cond.fieldLink RX6 25 "MayRings$Valley" "worths" "[I", Cond.fieldLink RX6 31 "MayRings$Valley" "law" "LMayRings$Law;", Cond.methodLink RX6 55 yX1_clear, Cond.instanceMethod yX1_clear, Cond.selects RX1 yX1_clear yX1_clear, Cond.initialized RX1, Cond.fieldLink RX6 35 "MayRings$Valley" "houses" "I", Cond.fieldLink RX6 39 "MayRings$Valley" "quarrelCount" "I", Cond.fieldLink RX6 42 "MayRings$Valley" "wishCount" "I", Cond.fieldLink RX6 45 "MayRings$Valley" "street" "Z"] ++ (wsX60 ++ (v_fill ++ (v_s_X1_clear ++ ([])))))
theorem k_s_X6_clear : GoodIn lw_tbl v_s_X6_clear := gd_c (List.mem_of_getElem? (i := 682) (by decide +kernel)) rfl (goodIn_app (gd_c (List.mem_of_getElem? (i := 213) (by decide +kernel)) rfl (gd_c (List.mem_of_getElem? (i := 207) (by decide +kernel)) rfl (gd_c (List.mem_of_getElem? (i := 208) (by decide +kernel)) rfl (gd_c (List.mem_of_getElem? (i := 134) (by decide +kernel)) rfl (gd_c (List.mem_of_getElem? (i := 216) (by decide +kernel)) rfl (gd_c (List.mem_of_getElem? (i := 218) (by decide +kernel)) rfl (gd_c (List.mem_of_getElem? (i := 221) (by decide +kernel)) rfl (gd_c (List.mem_of_getElem? (i := 683) (by decide +kernel)) rfl (gd_c (List.mem_of_getElem? (i := 684) (by decide +kernel)) rfl (gd_c (List.mem_of_getElem? (i := 685) (by decide +kernel)) rfl (gd_c (List.mem_of_getElem? (i := 133) (by decide +kernel)) rfl (gd_c (List.mem_of_getElem? (i := 224) (by decide +kernel)) rfl (gd_c (List.mem_of_getElem? (i := 227) (by decide +kernel)) rfl (gd_c (List.mem_of_getElem? (i := 229) (by decide +kernel)) rfl (gd_c (List.mem_of_getElem? (i := 231) (by decide +kernel)) rfl (gd_nil)))))))))))))))) (goodIn_app kfX6 (goodIn_app k_fill (goodIn_app k_s_X1_clear (gd_nil)))))
set_option maxHeartbeats 2000000 in
set_option maxRecDepth 100000 in
theorem c_s_X6_clear (l : Launch) (dC : Nat → ClassId) (dI : Nat → Nat → Nat) (cB cI cJ cZ cP : ClassId) (h0 : Nat) (h1 : Nat) (h2 : Nat) (h3 : Nat) (g2 : Nat → Int32) (h4 : Nat) (g3 : Nat → Int32) (h5 : Nat) (g4 : Nat → Int32) (h6 : Nat) (h7 : Nat) (g5 : Nat → Int32) (h8 : Nat) (h9 : Nat) (a0 : Int32) (a1 : Int32) (a2 : Int32) (a3 : Int32) (a4 : Int32) (a5 : Int32) (a6 : Int32) (sz : Nat) : Met l yX6_clear v_s_X6_clear ({ frames := 3, cells := 0, slots := 0, locals := 61 }) (va_Pc [.ref h0] (fun U => U.heap.size = sz ∧ va_P (dC, dI) vwCl [(h0, .inr (6, [.ref h1, .ref h2, .ref h3, .ref h4, .ref h5, .ref h6, .int a3, .int a4, .int a5, .int a6])), (h3, .inl (cI, 9, .inl g2)), (h4, .inl (cI, 9, .inl g3)), (h5, .inl (cI, 81, .inl g4)), (h6, .inr (1, [.ref h7, .ref h8, .ref h9, .int a0, .int a1, .int a2])), (h7, .inl (cI, 360, .inl g5))] U.heap ∧ va_K (dC, dI) vwCl (ty5 cB cI cJ cZ cP) U ∧ va_D (fun _ => True) [(h0, .inr (6, [.ref h1, .ref h2, .ref h3, .ref h4, .ref h5, .ref h6, .int a3, .int a4, .int a5, .int a6])), (h3, .inl (cI, 9, .inl g2)), (h4, .inl (cI, 9, .inl g3)), (h5, .inl (cI, 81, .inl g4)), (h6, .inr (1, [.ref h7, .ref h8, .ref h9, .int a0, .int a1, .int a2])), (h7, .inl (cI, 360, .inl g5))])) (va_Qv (fun _ : Unit => True) (fun _ t => ∃ (z0 : Nat → Int32) (z1 : Nat → Int32) (z2 : Nat → Int32) (z3 : Int32) (z4 : Nat → Int32), rg (0) (360) z3 ∧ va_P (dC, dI) vwCl [(h0, .inr (6, [.ref h1, .ref h2, .ref h3, .ref h4, .ref h5, .ref h6, .int 0, .int 0, .int 0, .int 0])), (h3, .inl (cI, 9, .inl z0)), (h4, .inl (cI, 9, .inl z1)), (h5, .inl (cI, 81, .inl z2)), (h6, .inr (1, [.ref h7, .ref h8, .ref h9, .int z3, .int a1, .int 0])), (h7, .inl (cI, 360, .inl z4))] t.heap ∧ va_D (va_A [(h0, .inr (6, [.ref h1, .ref h2, .ref h3, .ref h4, .ref h5, .ref h6, .int a3, .int a4, .int a5, .int a6])), (h3, .inl (cI, 9, .inl g2)), (h4, .inl (cI, 9, .inl g3)), (h5, .inl (cI, 81, .inl g4)), (h6, .inr (1, [.ref h7, .ref h8, .ref h9, .int a0, .int a1, .int a2])), (h7, .inl (cI, 360, .inl g5))] sz) [(h0, .inr (6, [.ref h1, .ref h2, .ref h3, .ref h4, .ref h5, .ref h6, .int 0, .int 0, .int 0, .int 0])), (h3, .inl (cI, 9, .inl z0)), (h4, .inl (cI, 9, .inl z1)), (h5, .inl (cI, 81, .inl z2)), (h6, .inr (1, [.ref h7, .ref h8, .ref h9, .int z3, .int a1, .int 0])), (h7, .inl (cI, 360, .inl z4))]) (va_A [(h0, .inr (6, [.ref h1, .ref h2, .ref h3, .ref h4, .ref h5, .ref h6, .int a3, .int a4, .int a5, .int a6])), (h3, .inl (cI, 9, .inl g2)), (h4, .inl (cI, 9, .inl g3)), (h5, .inl (cI, 81, .inl g4)), (h6, .inr (1, [.ref h7, .ref h8, .ref h9, .int a0, .int a1, .int a2])), (h7, .inl (cI, 360, .inl g5))] sz)) 0 0 (va_A [(h0, .inr (6, [.ref h1, .ref h2, .ref h3, .ref h4, .ref h5, .ref h6, .int a3, .int a4, .int a5, .int a6])), (h3, .inl (cI, 9, .inl g2)), (h4, .inl (cI, 9, .inl g3)), (h5, .inl (cI, 81, .inl g4)), (h6, .inr (1, [.ref h7, .ref h8, .ref h9, .int a0, .int a1, .int a2])), (h7, .inl (cI, 360, .inl g5))] sz) := by
  refine Met.ofW (cc := cX6_clear) (maxL := 1) (ret := none) (by decide) rfl ?_
  intro p e s m args below meth c s₁ B hml hv
  obtain ⟨rfl, hsz, hP, hK, hD0⟩ := hv
  have hx := B.exec
  have hb := B.bytes
  have hr := B.returns
  have hts := atoms_spec (ws := v_s_X6_clear) B.pre
  have hown : s.vm.findClass RX6 = some m.cls := findClass_of_methodNamed B.named
  have hlocks := B.notSynchronized
  have hinX6 : ∀ w ∈ wsX60, w ∈ v_s_X6_clear := fun _ h => List.mem_cons_of_mem _ (List.mem_append_right _ (List.mem_append_left _ h))
  subst hsz
  have hD := hD0.self (sz := s.heap.size)
  generalize hAe : va_A [(h0, .inr (6, [.ref h1, .ref h2, .ref h3, .ref h4, .ref h5, .ref h6, .int a3, .int a4, .int a5, .int a6])), (h3, .inl (cI, 9, .inl g2)), (h4, .inl (cI, 9, .inl g3)), (h5, .inl (cI, 81, .inl g4)), (h6, .inr (1, [.ref h7, .ref h8, .ref h9, .int a0, .int a1, .int a2])), (h7, .inl (cI, 360, .inl g5))] s.heap.size = A at hD ⊢
  have hA : ∀ q : Nat, s.heap.size ≤ q → A q := fun q h => by rw [← hAe]; exact Or.inr h
  have hP : va_P (dC, dI) vwCl [(h0, .inr (6, [.ref h1, .ref h2, .ref h3, .ref h4, .ref h5, .ref h6, .int a3, .int a4, .int a5, .int a6])), (h3, .inl (cI, 9, .inl g2)), (h4, .inl (cI, 9, .inl g3)), (h5, .inl (cI, 81, .inl g4)), (h6, .inr (1, [.ref h7, .ref h8, .ref h9, .int a0, .int a1, .int a2])), (h7, .inl (cI, 360, .inl g5))] s.heap := hP
  have hl := lv_entry ([.ref h0]) (n := 1) (Nat.le_of_ble_eq_true rfl)
  rw [lg_entry_eq]
  generalize (lg_sl ([.ref h0]) ++ List.replicate (1 - (lg_sl ([.ref h0])).length) Slot.unset).toArray = ls at hl ⊢
  have hl : lv_has ls 1 [(0, .ref h0)] := hl
  refine W_gen (A := A) hP (fun H locs hP hS => ?_)
  refine lv_aload_n hx hb dX6_clear_0 rfl (lv_at hl 0 rfl) ?_
  refine va_get (D := (dC, dI)) (ci := 6) (v := .ref h3) (C := RX6) (T := TX6) (N := 10) hx hb hts hinX6 hown hK hP 0 rfl rfl 2 (by decide) (hts (.fieldLink RX6 19 "MayRings$Valley" "bears" "[I") (List.mem_of_getElem? (i := 1) rfl)) (fun _ h9 => h9) rfl dX6_clear_1 ?_
  refine lv_sipush (v := 999) hx hb dX6_clear_4 (by decide) ?_
  have hPc := hP.sub (ws' := [(h3, .inl (cI, 9, .inl g2))]) [1] rfl
  have hDc := hD.sub (ws' := [(h3, .inl (cI, 9, .inl g2))]) [1] (by decide) rfl
  have hFc := va_free (wc := [(h3, .inl (cI, 9, .inl g2))]) hD hS hA [1] rfl
  refine va_callv (va_runS (As := [.ref h3, .int 999]) (rest := []) ⟨hx, hb, hml, hown, hts⟩ (c_fill l dC dI cB cI cJ cZ cP h3 9 g2 999 (by decide) H.size) (va_cwS 2 hts (gd_S (List.mem_of_getElem? (i := 2) rfl) (List.mem_of_getElem? (i := 3) rfl) (List.mem_of_getElem? (i := 4) rfl) (gd_mono k_fill (fun _ h => List.mem_cons_of_mem _ (List.mem_append_right _ (List.mem_append_right _ (List.mem_append_left _ h)))))) rfl rfl rfl (by decide +kernel) ⟨Nat.le_of_ble_eq_true rfl, Nat.le_of_ble_eq_true rfl⟩) ⟨fun a U g mk q => by obtain ⟨q0, q1, qP, qK, qD⟩ := q; exact ⟨q0, q1, qP, va_K.moved (u := U) (U := U.calling g mk a) (Vm.Alike.refl U.vm) qK, qD⟩, fun U hU hW => ⟨rfl, by rw [hU], by rw [hU]; exact hPc, va_K.moved hW.alike hK, hDc.weaken (fun _ _ _ _ => trivial)⟩⟩ rfl rfl hl.1 rfl (lv_room (Nat.le_of_ble_eq_true rfl)) dX6_clear_7 ⟨Nat.le_of_ble_eq_true rfl, Nat.le_of_ble_eq_true rfl⟩) hS (fun q _ h => hFc q h) hFc (fun u t H1 locs ht hvm hw hB hz1 hk1 hS => ?_)
  obtain ⟨f_2, ef_2, hP1, hD1⟩ := hB
  rw [ht] at hP1
  obtain ⟨hP, hD⟩ := va_join (wr := [(h0, .inr (6, [.ref h1, .ref h2, .ref h3, .ref h4, .ref h5, .ref h6, .int a3, .int a4, .int a5, .int a6])), (h4, .inl (cI, 9, .inl g3)), (h5, .inl (cI, 81, .inl g4)), (h6, .inr (1, [.ref h7, .ref h8, .ref h9, .int a0, .int a1, .int a2])), (h7, .inl (cI, 360, .inl g5))]) (w1 := [(h3, .inl (cI, 9, .inl f_2))]) hP hD [1] [0, 2, 3, 4, 5] rfl rfl (by decide) (by decide) hk1 hFc hP1 hD1
  generalize H1 = H at hP hS ⊢
  clear ef_2
  replace hP : va_P (dC, dI) vwCl [(h0, .inr (6, [.ref h1, .ref h2, .ref h3, .ref h4, .ref h5, .ref h6, .int a3, .int a4, .int a5, .int a6])), (h4, .inl (cI, 9, .inl g3)), (h5, .inl (cI, 81, .inl g4)), (h6, .inr (1, [.ref h7, .ref h8, .ref h9, .int a0, .int a1, .int a2])), (h7, .inl (cI, 360, .inl g5)), (h3, .inl (cI, 9, .inl f_2))] H := hP
  replace hD : va_D A [(h0, .inr (6, [.ref h1, .ref h2, .ref h3, .ref h4, .ref h5, .ref h6, .int a3, .int a4, .int a5, .int a6])), (h4, .inl (cI, 9, .inl g3)), (h5, .inl (cI, 81, .inl g4)), (h6, .inr (1, [.ref h7, .ref h8, .ref h9, .int a0, .int a1, .int a2])), (h7, .inl (cI, 360, .inl g5)), (h3, .inl (cI, 9, .inl f_2))] := hD
  refine lv_aload_n hx hb dX6_clear_10 rfl (lv_at hl 0 rfl) ?_
  refine va_get (D := (dC, dI)) (ci := 6) (v := .ref h4) (C := RX6) (T := TX6) (N := 10) hx hb hts hinX6 hown hK hP 0 rfl rfl 3 (by decide) (hts (.fieldLink RX6 22 "MayRings$Valley" "quarrels" "[I") (List.mem_of_getElem? (i := 5) rfl)) (fun _ h9 => h9) rfl dX6_clear_11 ?_
  refine lv_iconst (v := 0) hx hb dX6_clear_14 (by decide) ?_
  have hPc := hP.sub (ws' := [(h4, .inl (cI, 9, .inl g3))]) [1] rfl
  have hDc := hD.sub (ws' := [(h4, .inl (cI, 9, .inl g3))]) [1] (by decide) rfl
  have hFc := va_free (wc := [(h4, .inl (cI, 9, .inl g3))]) hD hS hA [1] rfl
  refine va_callv (va_runS (As := [.ref h4, .int 0]) (rest := []) ⟨hx, hb, hml, hown, hts⟩ (c_fill l dC dI cB cI cJ cZ cP h4 9 g3 0 (by decide) H.size) (va_cwS 2 hts (gd_S (List.mem_of_getElem? (i := 2) rfl) (List.mem_of_getElem? (i := 3) rfl) (List.mem_of_getElem? (i := 4) rfl) (gd_mono k_fill (fun _ h => List.mem_cons_of_mem _ (List.mem_append_right _ (List.mem_append_right _ (List.mem_append_left _ h)))))) rfl rfl rfl (by decide +kernel) ⟨Nat.le_of_ble_eq_true rfl, Nat.le_of_ble_eq_true rfl⟩) ⟨fun a U g mk q => by obtain ⟨q0, q1, qP, qK, qD⟩ := q; exact ⟨q0, q1, qP, va_K.moved (u := U) (U := U.calling g mk a) (Vm.Alike.refl U.vm) qK, qD⟩, fun U hU hW => ⟨rfl, by rw [hU], by rw [hU]; exact hPc, va_K.moved hW.alike hK, hDc.weaken (fun _ _ _ _ => trivial)⟩⟩ rfl rfl hl.1 rfl (lv_room (Nat.le_of_ble_eq_true rfl)) dX6_clear_15 ⟨Nat.le_of_ble_eq_true rfl, Nat.le_of_ble_eq_true rfl⟩) hS (fun q _ h => hFc q h) hFc (fun u t H1 locs ht hvm hw hB hz1 hk1 hS => ?_)
  obtain ⟨f_4, ef_4, hP1, hD1⟩ := hB
  rw [ht] at hP1
  obtain ⟨hP, hD⟩ := va_join (wr := [(h0, .inr (6, [.ref h1, .ref h2, .ref h3, .ref h4, .ref h5, .ref h6, .int a3, .int a4, .int a5, .int a6])), (h5, .inl (cI, 81, .inl g4)), (h6, .inr (1, [.ref h7, .ref h8, .ref h9, .int a0, .int a1, .int a2])), (h7, .inl (cI, 360, .inl g5)), (h3, .inl (cI, 9, .inl f_2))]) (w1 := [(h4, .inl (cI, 9, .inl f_4))]) hP hD [1] [0, 2, 3, 4, 5] rfl rfl (by decide) (by decide) hk1 hFc hP1 hD1
  generalize H1 = H at hP hS ⊢
  clear ef_4
  replace hP : va_P (dC, dI) vwCl [(h0, .inr (6, [.ref h1, .ref h2, .ref h3, .ref h4, .ref h5, .ref h6, .int a3, .int a4, .int a5, .int a6])), (h5, .inl (cI, 81, .inl g4)), (h6, .inr (1, [.ref h7, .ref h8, .ref h9, .int a0, .int a1, .int a2])), (h7, .inl (cI, 360, .inl g5)), (h3, .inl (cI, 9, .inl f_2)), (h4, .inl (cI, 9, .inl f_4))] H := hP
  replace hD : va_D A [(h0, .inr (6, [.ref h1, .ref h2, .ref h3, .ref h4, .ref h5, .ref h6, .int a3, .int a4, .int a5, .int a6])), (h5, .inl (cI, 81, .inl g4)), (h6, .inr (1, [.ref h7, .ref h8, .ref h9, .int a0, .int a1, .int a2])), (h7, .inl (cI, 360, .inl g5)), (h3, .inl (cI, 9, .inl f_2)), (h4, .inl (cI, 9, .inl f_4))] := hD
  refine lv_aload_n hx hb dX6_clear_18 rfl (lv_at hl 0 rfl) ?_
  refine va_get (D := (dC, dI)) (ci := 6) (v := .ref h5) (C := RX6) (T := TX6) (N := 10) hx hb hts hinX6 hown hK hP 0 rfl rfl 4 (by decide) (hts (.fieldLink RX6 25 "MayRings$Valley" "worths" "[I") (List.mem_of_getElem? (i := 6) rfl)) (fun _ h9 => h9) rfl dX6_clear_19 ?_
  refine lv_iconst (v := 0) hx hb dX6_clear_22 (by decide) ?_
  have hPc := hP.sub (ws' := [(h5, .inl (cI, 81, .inl g4))]) [1] rfl
  have hDc := hD.sub (ws' := [(h5, .inl (cI, 81, .inl g4))]) [1] (by decide) rfl
  have hFc := va_free (wc := [(h5, .inl (cI, 81, .inl g4))]) hD hS hA [1] rfl
  refine va_callv (va_runS (As := [.ref h5, .int 0]) (rest := []) ⟨hx, hb, hml, hown, hts⟩ (c_fill l dC dI cB cI cJ cZ cP h5 81 g4 0 (by decide) H.size) (va_cwS 2 hts (gd_S (List.mem_of_getElem? (i := 2) rfl) (List.mem_of_getElem? (i := 3) rfl) (List.mem_of_getElem? (i := 4) rfl) (gd_mono k_fill (fun _ h => List.mem_cons_of_mem _ (List.mem_append_right _ (List.mem_append_right _ (List.mem_append_left _ h)))))) rfl rfl rfl (by decide +kernel) ⟨Nat.le_of_ble_eq_true rfl, Nat.le_of_ble_eq_true rfl⟩) ⟨fun a U g mk q => by obtain ⟨q0, q1, qP, qK, qD⟩ := q; exact ⟨q0, q1, qP, va_K.moved (u := U) (U := U.calling g mk a) (Vm.Alike.refl U.vm) qK, qD⟩, fun U hU hW => ⟨rfl, by rw [hU], by rw [hU]; exact hPc, va_K.moved hW.alike hK, hDc.weaken (fun _ _ _ _ => trivial)⟩⟩ rfl rfl hl.1 rfl (lv_room (Nat.le_of_ble_eq_true rfl)) dX6_clear_23 ⟨Nat.le_of_ble_eq_true rfl, Nat.le_of_ble_eq_true rfl⟩) hS (fun q _ h => hFc q h) hFc (fun u t H1 locs ht hvm hw hB hz1 hk1 hS => ?_)
  obtain ⟨f_6, ef_6, hP1, hD1⟩ := hB
  rw [ht] at hP1
  obtain ⟨hP, hD⟩ := va_join (wr := [(h0, .inr (6, [.ref h1, .ref h2, .ref h3, .ref h4, .ref h5, .ref h6, .int a3, .int a4, .int a5, .int a6])), (h6, .inr (1, [.ref h7, .ref h8, .ref h9, .int a0, .int a1, .int a2])), (h7, .inl (cI, 360, .inl g5)), (h3, .inl (cI, 9, .inl f_2)), (h4, .inl (cI, 9, .inl f_4))]) (w1 := [(h5, .inl (cI, 81, .inl f_6))]) hP hD [1] [0, 2, 3, 4, 5] rfl rfl (by decide) (by decide) hk1 hFc hP1 hD1
  generalize H1 = H at hP hS ⊢
  clear ef_6
  replace hP : va_P (dC, dI) vwCl [(h0, .inr (6, [.ref h1, .ref h2, .ref h3, .ref h4, .ref h5, .ref h6, .int a3, .int a4, .int a5, .int a6])), (h6, .inr (1, [.ref h7, .ref h8, .ref h9, .int a0, .int a1, .int a2])), (h7, .inl (cI, 360, .inl g5)), (h3, .inl (cI, 9, .inl f_2)), (h4, .inl (cI, 9, .inl f_4)), (h5, .inl (cI, 81, .inl f_6))] H := hP
  replace hD : va_D A [(h0, .inr (6, [.ref h1, .ref h2, .ref h3, .ref h4, .ref h5, .ref h6, .int a3, .int a4, .int a5, .int a6])), (h6, .inr (1, [.ref h7, .ref h8, .ref h9, .int a0, .int a1, .int a2])), (h7, .inl (cI, 360, .inl g5)), (h3, .inl (cI, 9, .inl f_2)), (h4, .inl (cI, 9, .inl f_4)), (h5, .inl (cI, 81, .inl f_6))] := hD
  refine lv_aload_n hx hb dX6_clear_26 rfl (lv_at hl 0 rfl) ?_
  refine va_get (D := (dC, dI)) (ci := 6) (v := .ref h6) (C := RX6) (T := TX6) (N := 10) hx hb hts hinX6 hown hK hP 0 rfl rfl 5 (by decide) (hts (.fieldLink RX6 31 "MayRings$Valley" "law" "LMayRings$Law;") (List.mem_of_getElem? (i := 7) rfl)) (fun _ h9 => h9) rfl dX6_clear_27 ?_
  have hPc := hP.sub (ws' := [(h6, .inr (1, [.ref h7, .ref h8, .ref h9, .int a0, .int a1, .int a2])), (h7, .inl (cI, 360, .inl g5))]) [1, 2] rfl
  have hDc := hD.sub (ws' := [(h6, .inr (1, [.ref h7, .ref h8, .ref h9, .int a0, .int a1, .int a2])), (h7, .inl (cI, 360, .inl g5))]) [1, 2] (by decide) rfl
  have hFc := va_free (wc := [(h6, .inr (1, [.ref h7, .ref h8, .ref h9, .int a0, .int a1, .int a2])), (h7, .inl (cI, 360, .inl g5))]) hD hS hA [1, 2] rfl
  refine va_callv (va_runV (As := []) (rest := []) ⟨hx, hb, hml, hown, hts⟩ (c_s_X1_clear l dC dI cB cI cJ cZ cP h6 h7 g5 h8 h9 a0 a1 a2 H.size) (cwV 0 hts (gd_V (List.mem_of_getElem? (i := 8) rfl) (List.mem_of_getElem? (i := 9) rfl) (List.mem_of_getElem? (i := 10) rfl) (List.mem_of_getElem? (i := 11) rfl) (gd_mono k_s_X1_clear (fun _ h => List.mem_cons_of_mem _ (List.mem_append_right _ (List.mem_append_right _ (List.mem_append_right _ (List.mem_append_left _ h))))))) rfl rfl rfl (by decide +kernel) ⟨Nat.le_of_ble_eq_true rfl, Nat.le_of_ble_eq_true rfl⟩) ⟨fun a U g mk q => by obtain ⟨q0, q1, qP, qK, qD⟩ := q; exact ⟨q0, q1, qP, va_K.moved (u := U) (U := U.calling g mk a) (Vm.Alike.refl U.vm) qK, qD⟩, va_recv hK hPc (ci := 1) (q0 := 0) rfl rfl, fun U hU hW => ⟨rfl, by rw [hU], by rw [hU]; exact hPc, va_K.moved hW.alike hK, hDc.weaken (fun _ _ _ _ => trivial)⟩⟩ rfl rfl hl.1 rfl (lv_room (Nat.le_of_ble_eq_true rfl)) dX6_clear_30 ⟨Nat.le_of_ble_eq_true rfl, Nat.le_of_ble_eq_true rfl⟩) hS (fun q _ h => hFc q h) hFc (fun u t H1 locs ht hvm hw hB hz1 hk1 hS => ?_)
  obtain ⟨x_8, f_9, hx_8, hP1, hD1⟩ := hB
  rw [ht] at hP1
  obtain ⟨hP, hD⟩ := va_join (wr := [(h0, .inr (6, [.ref h1, .ref h2, .ref h3, .ref h4, .ref h5, .ref h6, .int a3, .int a4, .int a5, .int a6])), (h3, .inl (cI, 9, .inl f_2)), (h4, .inl (cI, 9, .inl f_4)), (h5, .inl (cI, 81, .inl f_6))]) (w1 := [(h6, .inr (1, [.ref h7, .ref h8, .ref h9, .int x_8, .int a1, .int 0])), (h7, .inl (cI, 360, .inl f_9))]) hP hD [1, 2] [0, 3, 4, 5] rfl rfl (by decide) (by decide) hk1 hFc hP1 hD1
  generalize H1 = H at hP hS ⊢
  replace hP : va_P (dC, dI) vwCl [(h0, .inr (6, [.ref h1, .ref h2, .ref h3, .ref h4, .ref h5, .ref h6, .int a3, .int a4, .int a5, .int a6])), (h3, .inl (cI, 9, .inl f_2)), (h4, .inl (cI, 9, .inl f_4)), (h5, .inl (cI, 81, .inl f_6)), (h6, .inr (1, [.ref h7, .ref h8, .ref h9, .int x_8, .int a1, .int 0])), (h7, .inl (cI, 360, .inl f_9))] H := hP
  replace hD : va_D A [(h0, .inr (6, [.ref h1, .ref h2, .ref h3, .ref h4, .ref h5, .ref h6, .int a3, .int a4, .int a5, .int a6])), (h3, .inl (cI, 9, .inl f_2)), (h4, .inl (cI, 9, .inl f_4)), (h5, .inl (cI, 81, .inl f_6)), (h6, .inr (1, [.ref h7, .ref h8, .ref h9, .int x_8, .int a1, .int 0])), (h7, .inl (cI, 360, .inl f_9))] := hD
  refine lv_aload_n hx hb dX6_clear_33 rfl (lv_at hl 0 rfl) ?_
  refine lv_iconst (v := 0) hx hb dX6_clear_34 (by decide) ?_
  refine va_put (D := (dC, dI)) (ci := 6) (v := .int 0) (ty := .int) (C := RX6) (T := TX6) (N := 10) hx hb hts hinX6 tyX6 tyX6_ok nmX6 hown hK hP hD hS 0 rfl rfl 6 (by decide) (hts (.fieldLink RX6 35 "MayRings$Valley" "houses" "I") (List.mem_of_getElem? (i := 12) rfl)) (fun _ h9 => h9) rfl (by decide +kernel) (rfl) (rfl) (Nat.le_of_ble_eq_true rfl) dX6_clear_35 (fun H locs hP hD hS => ?_)
  replace hP : va_P (dC, dI) vwCl [(h0, .inr (6, [.ref h1, .ref h2, .ref h3, .ref h4, .ref h5, .ref h6, .int 0, .int a4, .int a5, .int a6])), (h3, .inl (cI, 9, .inl f_2)), (h4, .inl (cI, 9, .inl f_4)), (h5, .inl (cI, 81, .inl f_6)), (h6, .inr (1, [.ref h7, .ref h8, .ref h9, .int x_8, .int a1, .int 0])), (h7, .inl (cI, 360, .inl f_9))] H := hP
  replace hD : va_D A [(h0, .inr (6, [.ref h1, .ref h2, .ref h3, .ref h4, .ref h5, .ref h6, .int 0, .int a4, .int a5, .int a6])), (h3, .inl (cI, 9, .inl f_2)), (h4, .inl (cI, 9, .inl f_4)), (h5, .inl (cI, 81, .inl f_6)), (h6, .inr (1, [.ref h7, .ref h8, .ref h9, .int x_8, .int a1, .int 0])), (h7, .inl (cI, 360, .inl f_9))] := hD
  refine lv_aload_n hx hb dX6_clear_38 rfl (lv_at hl 0 rfl) ?_
  refine lv_iconst (v := 0) hx hb dX6_clear_39 (by decide) ?_
  refine va_put (D := (dC, dI)) (ci := 6) (v := .int 0) (ty := .int) (C := RX6) (T := TX6) (N := 10) hx hb hts hinX6 tyX6 tyX6_ok nmX6 hown hK hP hD hS 0 rfl rfl 7 (by decide) (hts (.fieldLink RX6 39 "MayRings$Valley" "quarrelCount" "I") (List.mem_of_getElem? (i := 13) rfl)) (fun _ h9 => h9) rfl (by decide +kernel) (rfl) (rfl) (Nat.le_of_ble_eq_true rfl) dX6_clear_40 (fun H locs hP hD hS => ?_)
  replace hP : va_P (dC, dI) vwCl [(h0, .inr (6, [.ref h1, .ref h2, .ref h3, .ref h4, .ref h5, .ref h6, .int 0, .int 0, .int a5, .int a6])), (h3, .inl (cI, 9, .inl f_2)), (h4, .inl (cI, 9, .inl f_4)), (h5, .inl (cI, 81, .inl f_6)), (h6, .inr (1, [.ref h7, .ref h8, .ref h9, .int x_8, .int a1, .int 0])), (h7, .inl (cI, 360, .inl f_9))] H := hP
  replace hD : va_D A [(h0, .inr (6, [.ref h1, .ref h2, .ref h3, .ref h4, .ref h5, .ref h6, .int 0, .int 0, .int a5, .int a6])), (h3, .inl (cI, 9, .inl f_2)), (h4, .inl (cI, 9, .inl f_4)), (h5, .inl (cI, 81, .inl f_6)), (h6, .inr (1, [.ref h7, .ref h8, .ref h9, .int x_8, .int a1, .int 0])), (h7, .inl (cI, 360, .inl f_9))] := hD
  refine lv_aload_n hx hb dX6_clear_43 rfl (lv_at hl 0 rfl) ?_
  refine lv_iconst (v := 0) hx hb dX6_clear_44 (by decide) ?_
  refine va_put (D := (dC, dI)) (ci := 6) (v := .int 0) (ty := .int) (C := RX6) (T := TX6) (N := 10) hx hb hts hinX6 tyX6 tyX6_ok nmX6 hown hK hP hD hS 0 rfl rfl 8 (by decide) (hts (.fieldLink RX6 42 "MayRings$Valley" "wishCount" "I") (List.mem_of_getElem? (i := 14) rfl)) (fun _ h9 => h9) rfl (by decide +kernel) (rfl) (rfl) (Nat.le_of_ble_eq_true rfl) dX6_clear_45 (fun H locs hP hD hS => ?_)
  replace hP : va_P (dC, dI) vwCl [(h0, .inr (6, [.ref h1, .ref h2, .ref h3, .ref h4, .ref h5, .ref h6, .int 0, .int 0, .int 0, .int a6])), (h3, .inl (cI, 9, .inl f_2)), (h4, .inl (cI, 9, .inl f_4)), (h5, .inl (cI, 81, .inl f_6)), (h6, .inr (1, [.ref h7, .ref h8, .ref h9, .int x_8, .int a1, .int 0])), (h7, .inl (cI, 360, .inl f_9))] H := hP
  replace hD : va_D A [(h0, .inr (6, [.ref h1, .ref h2, .ref h3, .ref h4, .ref h5, .ref h6, .int 0, .int 0, .int 0, .int a6])), (h3, .inl (cI, 9, .inl f_2)), (h4, .inl (cI, 9, .inl f_4)), (h5, .inl (cI, 81, .inl f_6)), (h6, .inr (1, [.ref h7, .ref h8, .ref h9, .int x_8, .int a1, .int 0])), (h7, .inl (cI, 360, .inl f_9))] := hD
  refine lv_aload_n hx hb dX6_clear_48 rfl (lv_at hl 0 rfl) ?_
  refine lv_iconst (v := 0) hx hb dX6_clear_49 (by decide) ?_
  refine va_put (D := (dC, dI)) (ci := 6) (v := .int 0) (ty := .boolean) (C := RX6) (T := TX6) (N := 10) hx hb hts hinX6 tyX6 tyX6_ok nmX6 hown hK hP hD hS 0 rfl rfl 9 (by decide) (hts (.fieldLink RX6 45 "MayRings$Valley" "street" "Z") (List.mem_of_getElem? (i := 15) rfl)) (fun _ h9 => h9) rfl (by decide +kernel) (rfl) (rfl) (Nat.le_of_ble_eq_true rfl) dX6_clear_50 (fun H locs hP hD hS => ?_)
  replace hP : va_P (dC, dI) vwCl [(h0, .inr (6, [.ref h1, .ref h2, .ref h3, .ref h4, .ref h5, .ref h6, .int 0, .int 0, .int 0, .int 0])), (h3, .inl (cI, 9, .inl f_2)), (h4, .inl (cI, 9, .inl f_4)), (h5, .inl (cI, 81, .inl f_6)), (h6, .inr (1, [.ref h7, .ref h8, .ref h9, .int x_8, .int a1, .int 0])), (h7, .inl (cI, 360, .inl f_9))] H := hP
  replace hD : va_D A [(h0, .inr (6, [.ref h1, .ref h2, .ref h3, .ref h4, .ref h5, .ref h6, .int 0, .int 0, .int 0, .int 0])), (h3, .inl (cI, 9, .inl f_2)), (h4, .inl (cI, 9, .inl f_4)), (h5, .inl (cI, 81, .inl f_6)), (h6, .inr (1, [.ref h7, .ref h8, .ref h9, .int x_8, .int a1, .int 0])), (h7, .inl (cI, 360, .inl f_9))] := hD
  have hP9 := hP.sub (ws' := [(h0, .inr (6, [.ref h1, .ref h2, .ref h3, .ref h4, .ref h5, .ref h6, .int 0, .int 0, .int 0, .int 0])), (h3, .inl (cI, 9, .inl f_2)), (h4, .inl (cI, 9, .inl f_4)), (h5, .inl (cI, 81, .inl f_6)), (h6, .inr (1, [.ref h7, .ref h8, .ref h9, .int x_8, .int a1, .int 0])), (h7, .inl (cI, 360, .inl f_9))]) [0, 1, 2, 3, 4, 5] rfl
  have hD9 := hD.sub (ws' := [(h0, .inr (6, [.ref h1, .ref h2, .ref h3, .ref h4, .ref h5, .ref h6, .int 0, .int 0, .int 0, .int 0])), (h3, .inl (cI, 9, .inl f_2)), (h4, .inl (cI, 9, .inl f_4)), (h5, .inl (cI, 81, .inl f_6)), (h6, .inr (1, [.ref h7, .ref h8, .ref h9, .int x_8, .int a1, .int 0])), (h7, .inl (cI, 360, .inl f_9))]) [0, 1, 2, 3, 4, 5] (by decide) rfl
  exact W.vret hx hb hr (fun t ht hW => ⟨⟨(), rfl, trivial, ⟨f_2, f_4, f_6, x_8, f_9, (rg_mono hx_8 (by decide) (by decide)), by rw [ht]; exact hP9, hD9⟩⟩, hS.F ht⟩) hS.2.2 dX6_clear_53
def v_s_X6_allows : List Cond := Cond.code yX6_allows cX6_allows 5 (some .boolean) :: ([Cond.fieldLink RX6 22 "MayRings$Valley" "quarrels" "[I", Cond.fieldLink RX6 31 "MayRings$Valley" "law" "LMayRings$Law;", Cond.fieldLink RX6 15 "MayRings$Valley" "weights" "[I", Cond.methodLink RX6 58 Lib.Math.min.name, Cond.static Lib.Math.min.name, Cond.initialized RJ9, Cond.code Lib.Math.min.name Lib.Math.min.code 2 (some .int), Cond.methodLink RX6 64 yX1_look, Cond.instanceMethod yX1_look, Cond.selects RX1 yX1_look yX1_look, Cond.initialized RX1, Cond.methodLink RX6 68 Lib.Math.max.name, Cond.static Lib.Math.max.name, Cond.code Lib.Math.max.name Lib.Math.max.code 2 (some .int), Cond.fieldLink RX6 25 "MayRings$Valley" "worths" "[I", Cond.methodLink RX6 71 yX1_value, Cond.instanceMethod yX1_value, Cond.selects RX1 yX1_value yX1_value] ++ (wsX60 ++ (v_s_X1_look ++ (v_s_X1_value ++ ([])))))
theorem k_s_X6_allows : GoodIn lw_tbl v_s_X6_allows := gd_c (List.mem_of_getElem? (i := 803) (by decide +kernel)) rfl (goodIn_app (gd_c (List.mem_of_getElem? (i := 216) (by decide +kernel)) rfl (gd_c (List.mem_of_getElem? (i := 221) (by decide +kernel)) rfl (gd_c (List.mem_of_getElem? (i := 211) (by decide +kernel)) rfl (gd_c (List.mem_of_getElem? (i := 804) (by decide +kernel)) rfl (gd_c (List.mem_of_getElem? (i := 589) (by decide +kernel)) rfl (gd_c (List.mem_of_getElem? (i := 145) (by decide +kernel)) rfl (gd_c (List.mem_of_getElem? (i := 590) (by decide +kernel)) rfl (gd_c (List.mem_of_getElem? (i := 805) (by decide +kernel)) rfl (gd_c (List.mem_of_getElem? (i := 806) (by decide +kernel)) rfl (gd_c (List.mem_of_getElem? (i := 807) (by decide +kernel)) rfl (gd_c (List.mem_of_getElem? (i := 133) (by decide +kernel)) rfl (gd_c (List.mem_of_getElem? (i := 809) (by decide +kernel)) rfl (gd_c (List.mem_of_getElem? (i := 638) (by decide +kernel)) rfl (gd_c (List.mem_of_getElem? (i := 639) (by decide +kernel)) rfl (gd_c (List.mem_of_getElem? (i := 218) (by decide +kernel)) rfl (gd_c (List.mem_of_getElem? (i := 810) (by decide +kernel)) rfl (gd_c (List.mem_of_getElem? (i := 811) (by decide +kernel)) rfl (gd_c (List.mem_of_getElem? (i := 812) (by decide +kernel)) rfl (gd_nil))))))))))))))))))) (goodIn_app kfX6 (goodIn_app k_s_X1_look (goodIn_app k_s_X1_value (gd_nil)))))
set_option maxHeartbeats 2000000 in
set_option maxRecDepth 100000 in
theorem c_s_X6_allows (l : Launch) (dC : Nat → ClassId) (dI : Nat → Nat → Nat) (cB cI cJ cZ cP : ClassId) (h0 : Nat) (h1 : Nat) (h2 : Nat) (g1 : Nat → Int32) (h3 : Nat) (h4 : Nat) (g3 : Nat → Int32) (h5 : Nat) (g4 : Nat → Int32) (h6 : Nat) (h7 : Nat) (g5 : Nat → Int32) (h8 : Nat) (g6 : Nat → Int32) (h9 : Nat) (g7 : Nat → Int32) (a0 : Int32) (ha0 : rg (0) (360) a0) (a1 : Int32) (ha1 : rg (0) (40) a1) (a2 : Int32) (a3 : Int32) (a4 : Int32) (a5 : Int32) (a6 : Int32) (p0 : Int32) (hp0 : rg (0) (8) p0) (p1 : Int32) (hp1 : rg (0) (8) p1) (p2 : Int32) (p3 : Int32) (sz : Nat) : Met l yX6_allows v_s_X6_allows ({ frames := 2, cells := 0, slots := 0, locals := 45 }) (va_Pc [.ref h0, .int p0, .int p1, .int p2, .int p3] (fun U => U.heap.size = sz ∧ va_P (dC, dI) vwCl [(h0, .inr (6, [.ref h1, .ref h2, .ref h3, .ref h4, .ref h5, .ref h6, .int a3, .int a4, .int a5, .int a6])), (h2, .inl (cI, 9, .inl g1)), (h4, .inl (cI, 9, .inl g3)), (h5, .inl (cI, 81, .inl g4)), (h6, .inr (1, [.ref h7, .ref h8, .ref h9, .int a0, .int a1, .int a2])), (h7, .inl (cI, 360, .inl g5)), (h8, .inl (cI, 40, .inl g6)), (h9, .inl (cI, 16, .inl g7))] U.heap ∧ va_K (dC, dI) vwCl (ty5 cB cI cJ cZ cP) U ∧ va_D (fun _ => True) [(h0, .inr (6, [.ref h1, .ref h2, .ref h3, .ref h4, .ref h5, .ref h6, .int a3, .int a4, .int a5, .int a6])), (h2, .inl (cI, 9, .inl g1)), (h4, .inl (cI, 9, .inl g3)), (h5, .inl (cI, 81, .inl g4)), (h6, .inr (1, [.ref h7, .ref h8, .ref h9, .int a0, .int a1, .int a2])), (h7, .inl (cI, 360, .inl g5)), (h8, .inl (cI, 40, .inl g6)), (h9, .inl (cI, 16, .inl g7))])) (va_Qi (fun (r : Int32) (u9 : Unit) => rg (0) (1) r) (fun u9 t => ∃ (z0 : Int32) (z1 : Nat → Int32) (z2 : Nat → Int32), rg (0) (40) z0 ∧ va_P (dC, dI) vwCl [(h0, .inr (6, [.ref h1, .ref h2, .ref h3, .ref h4, .ref h5, .ref h6, .int a3, .int a4, .int a5, .int a6])), (h2, .inl (cI, 9, .inl g1)), (h4, .inl (cI, 9, .inl g3)), (h5, .inl (cI, 81, .inl g4)), (h6, .inr (1, [.ref h7, .ref h8, .ref h9, .int a0, .int z0, .int a2])), (h7, .inl (cI, 360, .inl g5)), (h8, .inl (cI, 40, .inl z1)), (h9, .inl (cI, 16, .inl z2))] t.heap ∧ va_D (va_A [(h0, .inr (6, [.ref h1, .ref h2, .ref h3, .ref h4, .ref h5, .ref h6, .int a3, .int a4, .int a5, .int a6])), (h2, .inl (cI, 9, .inl g1)), (h4, .inl (cI, 9, .inl g3)), (h5, .inl (cI, 81, .inl g4)), (h6, .inr (1, [.ref h7, .ref h8, .ref h9, .int a0, .int a1, .int a2])), (h7, .inl (cI, 360, .inl g5)), (h8, .inl (cI, 40, .inl g6)), (h9, .inl (cI, 16, .inl g7))] sz) [(h0, .inr (6, [.ref h1, .ref h2, .ref h3, .ref h4, .ref h5, .ref h6, .int a3, .int a4, .int a5, .int a6])), (h2, .inl (cI, 9, .inl g1)), (h4, .inl (cI, 9, .inl g3)), (h5, .inl (cI, 81, .inl g4)), (h6, .inr (1, [.ref h7, .ref h8, .ref h9, .int a0, .int z0, .int a2])), (h7, .inl (cI, 360, .inl g5)), (h8, .inl (cI, 40, .inl z1)), (h9, .inl (cI, 16, .inl z2))]) (va_A [(h0, .inr (6, [.ref h1, .ref h2, .ref h3, .ref h4, .ref h5, .ref h6, .int a3, .int a4, .int a5, .int a6])), (h2, .inl (cI, 9, .inl g1)), (h4, .inl (cI, 9, .inl g3)), (h5, .inl (cI, 81, .inl g4)), (h6, .inr (1, [.ref h7, .ref h8, .ref h9, .int a0, .int a1, .int a2])), (h7, .inl (cI, 360, .inl g5)), (h8, .inl (cI, 40, .inl g6)), (h9, .inl (cI, 16, .inl g7))] sz)) 0 0 (va_A [(h0, .inr (6, [.ref h1, .ref h2, .ref h3, .ref h4, .ref h5, .ref h6, .int a3, .int a4, .int a5, .int a6])), (h2, .inl (cI, 9, .inl g1)), (h4, .inl (cI, 9, .inl g3)), (h5, .inl (cI, 81, .inl g4)), (h6, .inr (1, [.ref h7, .ref h8, .ref h9, .int a0, .int a1, .int a2])), (h7, .inl (cI, 360, .inl g5)), (h8, .inl (cI, 40, .inl g6)), (h9, .inl (cI, 16, .inl g7))] sz) := by
  refine Met.ofW (cc := cX6_allows) (maxL := 5) (ret := (some .boolean)) (by decide) rfl ?_
  intro p e s m args below meth c s₁ B hml hv
  obtain ⟨rfl, hsz, hP, hK, hD0⟩ := hv
  have hx := B.exec
  have hb := B.bytes
  have hr := B.returns
  have hts := atoms_spec (ws := v_s_X6_allows) B.pre
  have hown : s.vm.findClass RX6 = some m.cls := findClass_of_methodNamed B.named
  have hlocks := B.notSynchronized
  have hinX6 : ∀ w ∈ wsX60, w ∈ v_s_X6_allows := fun _ h => List.mem_cons_of_mem _ (List.mem_append_right _ (List.mem_append_left _ h))
  subst hsz
  have hD := hD0.self (sz := s.heap.size)
  generalize hAe : va_A [(h0, .inr (6, [.ref h1, .ref h2, .ref h3, .ref h4, .ref h5, .ref h6, .int a3, .int a4, .int a5, .int a6])), (h2, .inl (cI, 9, .inl g1)), (h4, .inl (cI, 9, .inl g3)), (h5, .inl (cI, 81, .inl g4)), (h6, .inr (1, [.ref h7, .ref h8, .ref h9, .int a0, .int a1, .int a2])), (h7, .inl (cI, 360, .inl g5)), (h8, .inl (cI, 40, .inl g6)), (h9, .inl (cI, 16, .inl g7))] s.heap.size = A at hD ⊢
  have hA : ∀ q : Nat, s.heap.size ≤ q → A q := fun q h => by rw [← hAe]; exact Or.inr h
  have hP : va_P (dC, dI) vwCl [(h0, .inr (6, [.ref h1, .ref h2, .ref h3, .ref h4, .ref h5, .ref h6, .int a3, .int a4, .int a5, .int a6])), (h2, .inl (cI, 9, .inl g1)), (h4, .inl (cI, 9, .inl g3)), (h5, .inl (cI, 81, .inl g4)), (h6, .inr (1, [.ref h7, .ref h8, .ref h9, .int a0, .int a1, .int a2])), (h7, .inl (cI, 360, .inl g5)), (h8, .inl (cI, 40, .inl g6)), (h9, .inl (cI, 16, .inl g7))] s.heap := hP
  have hl := lv_entry ([.ref h0, .int p0, .int p1, .int p2, .int p3]) (n := 5) (Nat.le_of_ble_eq_true rfl)
  rw [lg_entry_eq]
  generalize (lg_sl ([.ref h0, .int p0, .int p1, .int p2, .int p3]) ++ List.replicate (5 - (lg_sl ([.ref h0, .int p0, .int p1, .int p2, .int p3])).length) Slot.unset).toArray = ls at hl ⊢
  have hl : lv_has ls 5 [(0, .ref h0), (1, .int p0), (2, .int p1), (3, .int p2), (4, .int p3)] := hl
  refine W_gen (A := A) hP (fun H locs hP hS => ?_)
  refine lv_aload_n hx hb dX6_allows_0 rfl (lv_at hl 0 rfl) ?_
  refine va_get (D := (dC, dI)) (ci := 6) (v := .ref h4) (C := RX6) (T := TX6) (N := 10) hx hb hts hinX6 hown hK hP 0 rfl rfl 3 (by decide) (hts (.fieldLink RX6 22 "MayRings$Valley" "quarrels" "[I") (List.mem_of_getElem? (i := 1) rfl)) (fun _ h9 => h9) rfl dX6_allows_1 ?_
  refine lv_iload_n hx hb dX6_allows_4 rfl (lv_at hl 1 rfl) ?_
  refine va_iald hx hb hK hP 2 1 rfl rfl (rg_in (n := 9) (rg_mono hp0 (by decide) (by decide))) dX6_allows_5 ?_
  refine lv_topi (fun x_1 ex_1 => ?_)
  refine lv_iload_n hx hb dX6_allows_6 rfl (lv_at hl 2 rfl) ?_
  refine lv_ishr hx hb dX6_allows_7 ?_
  refine lv_topi (fun x_2 ex_2 => ?_)
  refine lv_iconst (v := 1) hx hb dX6_allows_8 (by decide) ?_
  refine lv_iand hx hb dX6_allows_9 ?_
  refine lv_topi (fun x_3 ex_3 => ?_)
  have hx_3 : rg (0) (1) x_3 := by rw [ex_3]; exact rg_mono (rg_andr (b := 1) (rg_mono (rg_k (x := 1) (c := 1) (by decide)) (by decide) (by decide))) (by decide) (by decide)
  refine lv_iconst (v := 1) hx hb dX6_allows_10 (by decide) ?_
  refine lv_icmp_ne (tgt := 16) hx hb dX6_allows_11 (by decide) (fun c_4 => ?_) (fun c_4 => ?_)
  · skip
    have h_5 : rg (0) (0) x_3 := by have ha := hx_3; have hb_ := (rg_k (x := 1) (c := 1) (by decide)); simp only [rg, fa_lt, fa_le, fa_eq, (by decide : (1 : Int32).toInt = 1)] at ha hb_ c_4; simp only [rg]; omega
    refine lv_aload_n hx hb dX6_allows_16 rfl (lv_at hl 0 rfl) ?_
    refine va_get (D := (dC, dI)) (ci := 6) (v := .ref h6) (C := RX6) (T := TX6) (N := 10) hx hb hts hinX6 hown hK hP 0 rfl rfl 5 (by decide) (hts (.fieldLink RX6 31 "MayRings$Valley" "law" "LMayRings$Law;") (List.mem_of_getElem? (i := 2) rfl)) (fun _ h9 => h9) rfl dX6_allows_17 ?_
    refine lv_bipush (v := 12) hx hb dX6_allows_20 (by decide) ?_
    refine lv_aload_n hx hb dX6_allows_22 rfl (lv_at hl 0 rfl) ?_
    refine va_get (D := (dC, dI)) (ci := 6) (v := .ref h2) (C := RX6) (T := TX6) (N := 10) hx hb hts hinX6 hown hK hP 0 rfl rfl 1 (by decide) (hts (.fieldLink RX6 15 "MayRings$Valley" "weights" "[I") (List.mem_of_getElem? (i := 3) rfl)) (fun _ h9 => h9) rfl dX6_allows_23 ?_
    refine lv_iload_n hx hb dX6_allows_26 rfl (lv_at hl 1 rfl) ?_
    refine va_iald hx hb hK hP 1 1 rfl rfl (rg_in (n := 9) (rg_mono hp0 (by decide) (by decide))) dX6_allows_27 ?_
    refine lv_topi (fun x_6 ex_6 => ?_)
    refine lv_aload_n hx hb dX6_allows_28 rfl (lv_at hl 0 rfl) ?_
    refine va_get (D := (dC, dI)) (ci := 6) (v := .ref h2) (C := RX6) (T := TX6) (N := 10) hx hb hts hinX6 hown hK hP 0 rfl rfl 1 (by decide) (hts (.fieldLink RX6 15 "MayRings$Valley" "weights" "[I") (List.mem_of_getElem? (i := 3) rfl)) (fun _ h9 => h9) rfl dX6_allows_29 ?_
    refine lv_iload_n hx hb dX6_allows_32 rfl (lv_at hl 2 rfl) ?_
    refine va_iald hx hb hK hP 1 1 rfl rfl (rg_in (n := 9) (rg_mono hp1 (by decide) (by decide))) dX6_allows_33 ?_
    refine lv_topi (fun x_7 ex_7 => ?_)
    refine va_mmin hx hb (by rw [hml]; exact hl.1.symm) hown (hts (.methodLink RX6 58 Lib.Math.min.name) (List.mem_of_getElem? (i := 4) rfl)) (hts (.static Lib.Math.min.name) (List.mem_of_getElem? (i := 5) rfl)) (hts (.initialized RJ9) (List.mem_of_getElem? (i := 6) rfl)) (hts (.code Lib.Math.min.name Lib.Math.min.code 2 (some .int)) (List.mem_of_getElem? (i := 7) rfl)) (Nat.le_of_ble_eq_true rfl) (Nat.le_of_ble_eq_true rfl) (Nat.le_of_ble_eq_true rfl) (Nat.le_of_ble_eq_true rfl) dX6_allows_34 ?_
    refine lv_topi (fun x_8 ex_8 => ?_)
    have hx_8 : rg (-2147483648) (2147483647) x_8 := by rw [ex_8]; exact rg_mono (rg_min (rg_any x_6) (rg_any x_7)) (by decide) (by decide)
    clear ex_8
    have hPc := hP.sub (ws' := [(h6, .inr (1, [.ref h7, .ref h8, .ref h9, .int a0, .int a1, .int a2])), (h9, .inl (cI, 16, .inl g7))]) [4, 7] rfl
    have hDc := hD.sub (ws' := [(h6, .inr (1, [.ref h7, .ref h8, .ref h9, .int a0, .int a1, .int a2])), (h9, .inl (cI, 16, .inl g7))]) [4, 7] (by decide) rfl
    have hFc := va_free (wc := [(h6, .inr (1, [.ref h7, .ref h8, .ref h9, .int a0, .int a1, .int a2])), (h9, .inl (cI, 16, .inl g7))]) hD hS hA [4, 7] rfl
    refine va_callv (va_runV (As := [.int 12, .int x_8]) (rest := []) ⟨hx, hb, hml, hown, hts⟩ (c_s_X1_look l dC dI cB cI cJ cZ cP h6 h7 h8 h9 g7 a0 a1 a2 12 x_8 H.size) (cwV 2 hts (gd_V (List.mem_of_getElem? (i := 8) rfl) (List.mem_of_getElem? (i := 9) rfl) (List.mem_of_getElem? (i := 10) rfl) (List.mem_of_getElem? (i := 11) rfl) (gd_mono k_s_X1_look (fun _ h => List.mem_cons_of_mem _ (List.mem_append_right _ (List.mem_append_right _ (List.mem_append_left _ h)))))) rfl rfl rfl (by decide +kernel) ⟨Nat.le_of_ble_eq_true rfl, Nat.le_of_ble_eq_true rfl⟩) ⟨fun a U g mk q => by obtain ⟨q0, q1, qP, qK, qD⟩ := q; exact ⟨q0, q1, qP, va_K.moved (u := U) (U := U.calling g mk a) (Vm.Alike.refl U.vm) qK, qD⟩, va_recv hK hPc (ci := 1) (q0 := 0) rfl rfl, fun U hU hW => ⟨rfl, by rw [hU], by rw [hU]; exact hPc, va_K.moved hW.alike hK, hDc.weaken (fun _ _ _ _ => trivial)⟩⟩ rfl rfl hl.1 rfl (lv_room (Nat.le_of_ble_eq_true rfl)) dX6_allows_37 ⟨Nat.le_of_ble_eq_true rfl, Nat.le_of_ble_eq_true rfl⟩) hS (fun q _ h => hFc q h) hFc (fun u t H1 locs ht hvm hw hB hz1 hk1 hS => ?_)
    obtain ⟨f_10, hP1, hD1⟩ := hB
    rw [ht] at hP1
    obtain ⟨hP, hD⟩ := va_join (wr := [(h0, .inr (6, [.ref h1, .ref h2, .ref h3, .ref h4, .ref h5, .ref h6, .int a3, .int a4, .int a5, .int a6])), (h2, .inl (cI, 9, .inl g1)), (h4, .inl (cI, 9, .inl g3)), (h5, .inl (cI, 81, .inl g4)), (h7, .inl (cI, 360, .inl g5)), (h8, .inl (cI, 40, .inl g6))]) (w1 := [(h6, .inr (1, [.ref h7, .ref h8, .ref h9, .int a0, .int a1, .int a2])), (h9, .inl (cI, 16, .inl f_10))]) hP hD [4, 7] [0, 1, 2, 3, 5, 6] rfl rfl (by decide) (by decide) hk1 hFc hP1 hD1
    generalize H1 = H at hP hS ⊢
    replace hP : va_P (dC, dI) vwCl [(h0, .inr (6, [.ref h1, .ref h2, .ref h3, .ref h4, .ref h5, .ref h6, .int a3, .int a4, .int a5, .int a6])), (h2, .inl (cI, 9, .inl g1)), (h4, .inl (cI, 9, .inl g3)), (h5, .inl (cI, 81, .inl g4)), (h7, .inl (cI, 360, .inl g5)), (h8, .inl (cI, 40, .inl g6)), (h6, .inr (1, [.ref h7, .ref h8, .ref h9, .int a0, .int a1, .int a2])), (h9, .inl (cI, 16, .inl f_10))] H := hP
    replace hD : va_D A [(h0, .inr (6, [.ref h1, .ref h2, .ref h3, .ref h4, .ref h5, .ref h6, .int a3, .int a4, .int a5, .int a6])), (h2, .inl (cI, 9, .inl g1)), (h4, .inl (cI, 9, .inl g3)), (h5, .inl (cI, 81, .inl g4)), (h7, .inl (cI, 360, .inl g5)), (h8, .inl (cI, 40, .inl g6)), (h6, .inr (1, [.ref h7, .ref h8, .ref h9, .int a0, .int a1, .int a2])), (h9, .inl (cI, 16, .inl f_10))] := hD
    refine lv_aload_n hx hb dX6_allows_40 rfl (lv_at hl 0 rfl) ?_
    refine va_get (D := (dC, dI)) (ci := 6) (v := .ref h6) (C := RX6) (T := TX6) (N := 10) hx hb hts hinX6 hown hK hP 0 rfl rfl 5 (by decide) (hts (.fieldLink RX6 31 "MayRings$Valley" "law" "LMayRings$Law;") (List.mem_of_getElem? (i := 2) rfl)) (fun _ h9 => h9) rfl dX6_allows_41 ?_
    refine lv_bipush (v := 13) hx hb dX6_allows_44 (by decide) ?_
    refine lv_aload_n hx hb dX6_allows_46 rfl (lv_at hl 0 rfl) ?_
    refine va_get (D := (dC, dI)) (ci := 6) (v := .ref h2) (C := RX6) (T := TX6) (N := 10) hx hb hts hinX6 hown hK hP 0 rfl rfl 1 (by decide) (hts (.fieldLink RX6 15 "MayRings$Valley" "weights" "[I") (List.mem_of_getElem? (i := 3) rfl)) (fun _ h9 => h9) rfl dX6_allows_47 ?_
    refine lv_iload_n hx hb dX6_allows_50 rfl (lv_at hl 1 rfl) ?_
    refine va_iald hx hb hK hP 1 1 rfl rfl (rg_in (n := 9) (rg_mono hp0 (by decide) (by decide))) dX6_allows_51 ?_
    refine tp_v (.int x_6) (congrArg Value.int (ex_6.symm)) ?_
    refine lv_aload_n hx hb dX6_allows_52 rfl (lv_at hl 0 rfl) ?_
    refine va_get (D := (dC, dI)) (ci := 6) (v := .ref h2) (C := RX6) (T := TX6) (N := 10) hx hb hts hinX6 hown hK hP 0 rfl rfl 1 (by decide) (hts (.fieldLink RX6 15 "MayRings$Valley" "weights" "[I") (List.mem_of_getElem? (i := 3) rfl)) (fun _ h9 => h9) rfl dX6_allows_53 ?_
    refine lv_iload_n hx hb dX6_allows_56 rfl (lv_at hl 2 rfl) ?_
    refine va_iald hx hb hK hP 1 1 rfl rfl (rg_in (n := 9) (rg_mono hp1 (by decide) (by decide))) dX6_allows_57 ?_
    refine tp_v (.int x_7) (congrArg Value.int (ex_7.symm)) ?_
    refine va_mmax hx hb (by rw [hml]; exact hl.1.symm) hown (hts (.methodLink RX6 68 Lib.Math.max.name) (List.mem_of_getElem? (i := 12) rfl)) (hts (.static Lib.Math.max.name) (List.mem_of_getElem? (i := 13) rfl)) (hts (.initialized RJ9) (List.mem_of_getElem? (i := 6) rfl)) (hts (.code Lib.Math.max.name Lib.Math.max.code 2 (some .int)) (List.mem_of_getElem? (i := 14) rfl)) (Nat.le_of_ble_eq_true rfl) (Nat.le_of_ble_eq_true rfl) (Nat.le_of_ble_eq_true rfl) (Nat.le_of_ble_eq_true rfl) dX6_allows_58 ?_
    refine lv_topi (fun x_11 ex_11 => ?_)
    have hx_11 : rg (-2147483648) (2147483647) x_11 := by rw [ex_11]; exact rg_mono (rg_max (rg_any x_6) (rg_any x_7)) (by decide) (by decide)
    clear ex_11
    have hPc := hP.sub (ws' := [(h6, .inr (1, [.ref h7, .ref h8, .ref h9, .int a0, .int a1, .int a2])), (h9, .inl (cI, 16, .inl f_10))]) [6, 7] rfl
    have hDc := hD.sub (ws' := [(h6, .inr (1, [.ref h7, .ref h8, .ref h9, .int a0, .int a1, .int a2])), (h9, .inl (cI, 16, .inl f_10))]) [6, 7] (by decide) rfl
    have hFc := va_free (wc := [(h6, .inr (1, [.ref h7, .ref h8, .ref h9, .int a0, .int a1, .int a2])), (h9, .inl (cI, 16, .inl f_10))]) hD hS hA [6, 7] rfl
    refine va_callv (va_runV (As := [.int 13, .int x_11]) (rest := []) ⟨hx, hb, hml, hown, hts⟩ (c_s_X1_look l dC dI cB cI cJ cZ cP h6 h7 h8 h9 f_10 a0 a1 a2 13 x_11 H.size) (cwV 2 hts (gd_V (List.mem_of_getElem? (i := 8) rfl) (List.mem_of_getElem? (i := 9) rfl) (List.mem_of_getElem? (i := 10) rfl) (List.mem_of_getElem? (i := 11) rfl) (gd_mono k_s_X1_look (fun _ h => List.mem_cons_of_mem _ (List.mem_append_right _ (List.mem_append_right _ (List.mem_append_left _ h)))))) rfl rfl rfl (by decide +kernel) ⟨Nat.le_of_ble_eq_true rfl, Nat.le_of_ble_eq_true rfl⟩) ⟨fun a U g mk q => by obtain ⟨q0, q1, qP, qK, qD⟩ := q; exact ⟨q0, q1, qP, va_K.moved (u := U) (U := U.calling g mk a) (Vm.Alike.refl U.vm) qK, qD⟩, va_recv hK hPc (ci := 1) (q0 := 0) rfl rfl, fun U hU hW => ⟨rfl, by rw [hU], by rw [hU]; exact hPc, va_K.moved hW.alike hK, hDc.weaken (fun _ _ _ _ => trivial)⟩⟩ rfl rfl hl.1 rfl (lv_room (Nat.le_of_ble_eq_true rfl)) dX6_allows_61 ⟨Nat.le_of_ble_eq_true rfl, Nat.le_of_ble_eq_true rfl⟩) hS (fun q _ h => hFc q h) hFc (fun u t H1 locs ht hvm hw hB hz1 hk1 hS => ?_)
    obtain ⟨f_13, hP1, hD1⟩ := hB
    rw [ht] at hP1
    obtain ⟨hP, hD⟩ := va_join (wr := [(h0, .inr (6, [.ref h1, .ref h2, .ref h3, .ref h4, .ref h5, .ref h6, .int a3, .int a4, .int a5, .int a6])), (h2, .inl (cI, 9, .inl g1)), (h4, .inl (cI, 9, .inl g3)), (h5, .inl (cI, 81, .inl g4)), (h7, .inl (cI, 360, .inl g5)), (h8, .inl (cI, 40, .inl g6))]) (w1 := [(h6, .inr (1, [.ref h7, .ref h8, .ref h9, .int a0, .int a1, .int a2])), (h9, .inl (cI, 16, .inl f_13))]) hP hD [6, 7] [0, 1, 2, 3, 4, 5] rfl rfl (by decide) (by decide) hk1 hFc hP1 hD1
    generalize H1 = H at hP hS ⊢
    replace hP : va_P (dC, dI) vwCl [(h0, .inr (6, [.ref h1, .ref h2, .ref h3, .ref h4, .ref h5, .ref h6, .int a3, .int a4, .int a5, .int a6])), (h2, .inl (cI, 9, .inl g1)), (h4, .inl (cI, 9, .inl g3)), (h5, .inl (cI, 81, .inl g4)), (h7, .inl (cI, 360, .inl g5)), (h8, .inl (cI, 40, .inl g6)), (h6, .inr (1, [.ref h7, .ref h8, .ref h9, .int a0, .int a1, .int a2])), (h9, .inl (cI, 16, .inl f_13))] H := hP
    replace hD : va_D A [(h0, .inr (6, [.ref h1, .ref h2, .ref h3, .ref h4, .ref h5, .ref h6, .int a3, .int a4, .int a5, .int a6])), (h2, .inl (cI, 9, .inl g1)), (h4, .inl (cI, 9, .inl g3)), (h5, .inl (cI, 81, .inl g4)), (h7, .inl (cI, 360, .inl g5)), (h8, .inl (cI, 40, .inl g6)), (h6, .inr (1, [.ref h7, .ref h8, .ref h9, .int a0, .int a1, .int a2])), (h9, .inl (cI, 16, .inl f_13))] := hD
    refine lv_aload_n hx hb dX6_allows_64 rfl (lv_at hl 0 rfl) ?_
    refine va_get (D := (dC, dI)) (ci := 6) (v := .ref h6) (C := RX6) (T := TX6) (N := 10) hx hb hts hinX6 hown hK hP 0 rfl rfl 5 (by decide) (hts (.fieldLink RX6 31 "MayRings$Valley" "law" "LMayRings$Law;") (List.mem_of_getElem? (i := 2) rfl)) (fun _ h9 => h9) rfl dX6_allows_65 ?_
    refine lv_bipush (v := 14) hx hb dX6_allows_68 (by decide) ?_
    refine lv_iload_n hx hb dX6_allows_70 rfl (lv_at hl 3 rfl) ?_
    have hPc := hP.sub (ws' := [(h6, .inr (1, [.ref h7, .ref h8, .ref h9, .int a0, .int a1, .int a2])), (h9, .inl (cI, 16, .inl f_13))]) [6, 7] rfl
    have hDc := hD.sub (ws' := [(h6, .inr (1, [.ref h7, .ref h8, .ref h9, .int a0, .int a1, .int a2])), (h9, .inl (cI, 16, .inl f_13))]) [6, 7] (by decide) rfl
    have hFc := va_free (wc := [(h6, .inr (1, [.ref h7, .ref h8, .ref h9, .int a0, .int a1, .int a2])), (h9, .inl (cI, 16, .inl f_13))]) hD hS hA [6, 7] rfl
    refine va_callv (va_runV (As := [.int 14, .int p2]) (rest := []) ⟨hx, hb, hml, hown, hts⟩ (c_s_X1_look l dC dI cB cI cJ cZ cP h6 h7 h8 h9 f_13 a0 a1 a2 14 p2 H.size) (cwV 2 hts (gd_V (List.mem_of_getElem? (i := 8) rfl) (List.mem_of_getElem? (i := 9) rfl) (List.mem_of_getElem? (i := 10) rfl) (List.mem_of_getElem? (i := 11) rfl) (gd_mono k_s_X1_look (fun _ h => List.mem_cons_of_mem _ (List.mem_append_right _ (List.mem_append_right _ (List.mem_append_left _ h)))))) rfl rfl rfl (by decide +kernel) ⟨Nat.le_of_ble_eq_true rfl, Nat.le_of_ble_eq_true rfl⟩) ⟨fun a U g mk q => by obtain ⟨q0, q1, qP, qK, qD⟩ := q; exact ⟨q0, q1, qP, va_K.moved (u := U) (U := U.calling g mk a) (Vm.Alike.refl U.vm) qK, qD⟩, va_recv hK hPc (ci := 1) (q0 := 0) rfl rfl, fun U hU hW => ⟨rfl, by rw [hU], by rw [hU]; exact hPc, va_K.moved hW.alike hK, hDc.weaken (fun _ _ _ _ => trivial)⟩⟩ rfl rfl hl.1 rfl (lv_room (Nat.le_of_ble_eq_true rfl)) dX6_allows_71 ⟨Nat.le_of_ble_eq_true rfl, Nat.le_of_ble_eq_true rfl⟩) hS (fun q _ h => hFc q h) hFc (fun u t H1 locs ht hvm hw hB hz1 hk1 hS => ?_)
    obtain ⟨f_15, hP1, hD1⟩ := hB
    rw [ht] at hP1
    obtain ⟨hP, hD⟩ := va_join (wr := [(h0, .inr (6, [.ref h1, .ref h2, .ref h3, .ref h4, .ref h5, .ref h6, .int a3, .int a4, .int a5, .int a6])), (h2, .inl (cI, 9, .inl g1)), (h4, .inl (cI, 9, .inl g3)), (h5, .inl (cI, 81, .inl g4)), (h7, .inl (cI, 360, .inl g5)), (h8, .inl (cI, 40, .inl g6))]) (w1 := [(h6, .inr (1, [.ref h7, .ref h8, .ref h9, .int a0, .int a1, .int a2])), (h9, .inl (cI, 16, .inl f_15))]) hP hD [6, 7] [0, 1, 2, 3, 4, 5] rfl rfl (by decide) (by decide) hk1 hFc hP1 hD1
    generalize H1 = H at hP hS ⊢
    replace hP : va_P (dC, dI) vwCl [(h0, .inr (6, [.ref h1, .ref h2, .ref h3, .ref h4, .ref h5, .ref h6, .int a3, .int a4, .int a5, .int a6])), (h2, .inl (cI, 9, .inl g1)), (h4, .inl (cI, 9, .inl g3)), (h5, .inl (cI, 81, .inl g4)), (h7, .inl (cI, 360, .inl g5)), (h8, .inl (cI, 40, .inl g6)), (h6, .inr (1, [.ref h7, .ref h8, .ref h9, .int a0, .int a1, .int a2])), (h9, .inl (cI, 16, .inl f_15))] H := hP
    replace hD : va_D A [(h0, .inr (6, [.ref h1, .ref h2, .ref h3, .ref h4, .ref h5, .ref h6, .int a3, .int a4, .int a5, .int a6])), (h2, .inl (cI, 9, .inl g1)), (h4, .inl (cI, 9, .inl g3)), (h5, .inl (cI, 81, .inl g4)), (h7, .inl (cI, 360, .inl g5)), (h8, .inl (cI, 40, .inl g6)), (h6, .inr (1, [.ref h7, .ref h8, .ref h9, .int a0, .int a1, .int a2])), (h9, .inl (cI, 16, .inl f_15))] := hD
    refine lv_aload_n hx hb dX6_allows_74 rfl (lv_at hl 0 rfl) ?_
    refine va_get (D := (dC, dI)) (ci := 6) (v := .ref h6) (C := RX6) (T := TX6) (N := 10) hx hb hts hinX6 hown hK hP 0 rfl rfl 5 (by decide) (hts (.fieldLink RX6 31 "MayRings$Valley" "law" "LMayRings$Law;") (List.mem_of_getElem? (i := 2) rfl)) (fun _ h9 => h9) rfl dX6_allows_75 ?_
    refine lv_bipush (v := 6) hx hb dX6_allows_78 (by decide) ?_
    refine lv_aload_n hx hb dX6_allows_80 rfl (lv_at hl 0 rfl) ?_
    refine va_get (D := (dC, dI)) (ci := 6) (v := .ref h5) (C := RX6) (T := TX6) (N := 10) hx hb hts hinX6 hown hK hP 0 rfl rfl 4 (by decide) (hts (.fieldLink RX6 25 "MayRings$Valley" "worths" "[I") (List.mem_of_getElem? (i := 15) rfl)) (fun _ h9 => h9) rfl dX6_allows_81 ?_
    refine lv_iload_n hx hb dX6_allows_84 rfl (lv_at hl 1 rfl) ?_
    refine lv_bipush (v := 9) hx hb dX6_allows_85 (by decide) ?_
    refine lv_imul hx hb dX6_allows_87 ?_
    refine lv_topi (fun x_16 ex_16 => ?_)
    have hx_16 : rg (0) (72) x_16 := by rw [ex_16]; exact rg_mono (rg_mul hp0 (rg_k (x := 9) (c := 9) (by decide)) (by decide) (by decide) (by decide)) (by decide) (by decide)
    refine lv_iload_n hx hb dX6_allows_88 rfl (lv_at hl 2 rfl) ?_
    refine lv_iadd hx hb dX6_allows_89 ?_
    refine lv_topi (fun x_17 ex_17 => ?_)
    have hx_17 : rg (0) (80) x_17 := by rw [ex_17]; exact rg_mono (rg_add hx_16 hp1 (by decide) (by decide)) (by decide) (by decide)
    have qx_17 : x_17.toInt = x_16.toInt + p1.toInt := by rw [ex_17]; exact rg_addQ hx_16 hp1 (by decide) (by decide)
    refine va_iald hx hb hK hP 3 1 rfl rfl (rg_in (n := 81) (rg_mono hx_17 (by decide) (by decide))) dX6_allows_90 ?_
    refine lv_topi (fun x_18 ex_18 => ?_)
    have hPc := hP.sub (ws' := [(h6, .inr (1, [.ref h7, .ref h8, .ref h9, .int a0, .int a1, .int a2])), (h9, .inl (cI, 16, .inl f_15))]) [6, 7] rfl
    have hDc := hD.sub (ws' := [(h6, .inr (1, [.ref h7, .ref h8, .ref h9, .int a0, .int a1, .int a2])), (h9, .inl (cI, 16, .inl f_15))]) [6, 7] (by decide) rfl
    have hFc := va_free (wc := [(h6, .inr (1, [.ref h7, .ref h8, .ref h9, .int a0, .int a1, .int a2])), (h9, .inl (cI, 16, .inl f_15))]) hD hS hA [6, 7] rfl
    refine va_callv (va_runV (As := [.int 6, .int x_18]) (rest := []) ⟨hx, hb, hml, hown, hts⟩ (c_s_X1_look l dC dI cB cI cJ cZ cP h6 h7 h8 h9 f_15 a0 a1 a2 6 x_18 H.size) (cwV 2 hts (gd_V (List.mem_of_getElem? (i := 8) rfl) (List.mem_of_getElem? (i := 9) rfl) (List.mem_of_getElem? (i := 10) rfl) (List.mem_of_getElem? (i := 11) rfl) (gd_mono k_s_X1_look (fun _ h => List.mem_cons_of_mem _ (List.mem_append_right _ (List.mem_append_right _ (List.mem_append_left _ h)))))) rfl rfl rfl (by decide +kernel) ⟨Nat.le_of_ble_eq_true rfl, Nat.le_of_ble_eq_true rfl⟩) ⟨fun a U g mk q => by obtain ⟨q0, q1, qP, qK, qD⟩ := q; exact ⟨q0, q1, qP, va_K.moved (u := U) (U := U.calling g mk a) (Vm.Alike.refl U.vm) qK, qD⟩, va_recv hK hPc (ci := 1) (q0 := 0) rfl rfl, fun U hU hW => ⟨rfl, by rw [hU], by rw [hU]; exact hPc, va_K.moved hW.alike hK, hDc.weaken (fun _ _ _ _ => trivial)⟩⟩ rfl rfl hl.1 rfl (lv_room (Nat.le_of_ble_eq_true rfl)) dX6_allows_91 ⟨Nat.le_of_ble_eq_true rfl, Nat.le_of_ble_eq_true rfl⟩) hS (fun q _ h => hFc q h) hFc (fun u t H1 locs ht hvm hw hB hz1 hk1 hS => ?_)
    obtain ⟨f_20, hP1, hD1⟩ := hB
    rw [ht] at hP1
    obtain ⟨hP, hD⟩ := va_join (wr := [(h0, .inr (6, [.ref h1, .ref h2, .ref h3, .ref h4, .ref h5, .ref h6, .int a3, .int a4, .int a5, .int a6])), (h2, .inl (cI, 9, .inl g1)), (h4, .inl (cI, 9, .inl g3)), (h5, .inl (cI, 81, .inl g4)), (h7, .inl (cI, 360, .inl g5)), (h8, .inl (cI, 40, .inl g6))]) (w1 := [(h6, .inr (1, [.ref h7, .ref h8, .ref h9, .int a0, .int a1, .int a2])), (h9, .inl (cI, 16, .inl f_20))]) hP hD [6, 7] [0, 1, 2, 3, 4, 5] rfl rfl (by decide) (by decide) hk1 hFc hP1 hD1
    generalize H1 = H at hP hS ⊢
    replace hP : va_P (dC, dI) vwCl [(h0, .inr (6, [.ref h1, .ref h2, .ref h3, .ref h4, .ref h5, .ref h6, .int a3, .int a4, .int a5, .int a6])), (h2, .inl (cI, 9, .inl g1)), (h4, .inl (cI, 9, .inl g3)), (h5, .inl (cI, 81, .inl g4)), (h7, .inl (cI, 360, .inl g5)), (h8, .inl (cI, 40, .inl g6)), (h6, .inr (1, [.ref h7, .ref h8, .ref h9, .int a0, .int a1, .int a2])), (h9, .inl (cI, 16, .inl f_20))] H := hP
    replace hD : va_D A [(h0, .inr (6, [.ref h1, .ref h2, .ref h3, .ref h4, .ref h5, .ref h6, .int a3, .int a4, .int a5, .int a6])), (h2, .inl (cI, 9, .inl g1)), (h4, .inl (cI, 9, .inl g3)), (h5, .inl (cI, 81, .inl g4)), (h7, .inl (cI, 360, .inl g5)), (h8, .inl (cI, 40, .inl g6)), (h6, .inr (1, [.ref h7, .ref h8, .ref h9, .int a0, .int a1, .int a2])), (h9, .inl (cI, 16, .inl f_20))] := hD
    refine lv_aload_n hx hb dX6_allows_94 rfl (lv_at hl 0 rfl) ?_
    refine va_get (D := (dC, dI)) (ci := 6) (v := .ref h6) (C := RX6) (T := TX6) (N := 10) hx hb hts hinX6 hown hK hP 0 rfl rfl 5 (by decide) (hts (.fieldLink RX6 31 "MayRings$Valley" "law" "LMayRings$Law;") (List.mem_of_getElem? (i := 2) rfl)) (fun _ h9 => h9) rfl dX6_allows_95 ?_
    refine lv_bipush (v := 15) hx hb dX6_allows_98 (by decide) ?_
    refine lv_iload hx hb dX6_allows_100 (lv_at hl 4 rfl) ?_
    have hPc := hP.sub (ws' := [(h6, .inr (1, [.ref h7, .ref h8, .ref h9, .int a0, .int a1, .int a2])), (h9, .inl (cI, 16, .inl f_20))]) [6, 7] rfl
    have hDc := hD.sub (ws' := [(h6, .inr (1, [.ref h7, .ref h8, .ref h9, .int a0, .int a1, .int a2])), (h9, .inl (cI, 16, .inl f_20))]) [6, 7] (by decide) rfl
    have hFc := va_free (wc := [(h6, .inr (1, [.ref h7, .ref h8, .ref h9, .int a0, .int a1, .int a2])), (h9, .inl (cI, 16, .inl f_20))]) hD hS hA [6, 7] rfl
    refine va_callv (va_runV (As := [.int 15, .int p3]) (rest := []) ⟨hx, hb, hml, hown, hts⟩ (c_s_X1_look l dC dI cB cI cJ cZ cP h6 h7 h8 h9 f_20 a0 a1 a2 15 p3 H.size) (cwV 2 hts (gd_V (List.mem_of_getElem? (i := 8) rfl) (List.mem_of_getElem? (i := 9) rfl) (List.mem_of_getElem? (i := 10) rfl) (List.mem_of_getElem? (i := 11) rfl) (gd_mono k_s_X1_look (fun _ h => List.mem_cons_of_mem _ (List.mem_append_right _ (List.mem_append_right _ (List.mem_append_left _ h)))))) rfl rfl rfl (by decide +kernel) ⟨Nat.le_of_ble_eq_true rfl, Nat.le_of_ble_eq_true rfl⟩) ⟨fun a U g mk q => by obtain ⟨q0, q1, qP, qK, qD⟩ := q; exact ⟨q0, q1, qP, va_K.moved (u := U) (U := U.calling g mk a) (Vm.Alike.refl U.vm) qK, qD⟩, va_recv hK hPc (ci := 1) (q0 := 0) rfl rfl, fun U hU hW => ⟨rfl, by rw [hU], by rw [hU]; exact hPc, va_K.moved hW.alike hK, hDc.weaken (fun _ _ _ _ => trivial)⟩⟩ rfl rfl hl.1 rfl (lv_room (Nat.le_of_ble_eq_true rfl)) dX6_allows_102 ⟨Nat.le_of_ble_eq_true rfl, Nat.le_of_ble_eq_true rfl⟩) hS (fun q _ h => hFc q h) hFc (fun u t H1 locs ht hvm hw hB hz1 hk1 hS => ?_)
    obtain ⟨f_22, hP1, hD1⟩ := hB
    rw [ht] at hP1
    obtain ⟨hP, hD⟩ := va_join (wr := [(h0, .inr (6, [.ref h1, .ref h2, .ref h3, .ref h4, .ref h5, .ref h6, .int a3, .int a4, .int a5, .int a6])), (h2, .inl (cI, 9, .inl g1)), (h4, .inl (cI, 9, .inl g3)), (h5, .inl (cI, 81, .inl g4)), (h7, .inl (cI, 360, .inl g5)), (h8, .inl (cI, 40, .inl g6))]) (w1 := [(h6, .inr (1, [.ref h7, .ref h8, .ref h9, .int a0, .int a1, .int a2])), (h9, .inl (cI, 16, .inl f_22))]) hP hD [6, 7] [0, 1, 2, 3, 4, 5] rfl rfl (by decide) (by decide) hk1 hFc hP1 hD1
    generalize H1 = H at hP hS ⊢
    replace hP : va_P (dC, dI) vwCl [(h0, .inr (6, [.ref h1, .ref h2, .ref h3, .ref h4, .ref h5, .ref h6, .int a3, .int a4, .int a5, .int a6])), (h2, .inl (cI, 9, .inl g1)), (h4, .inl (cI, 9, .inl g3)), (h5, .inl (cI, 81, .inl g4)), (h7, .inl (cI, 360, .inl g5)), (h8, .inl (cI, 40, .inl g6)), (h6, .inr (1, [.ref h7, .ref h8, .ref h9, .int a0, .int a1, .int a2])), (h9, .inl (cI, 16, .inl f_22))] H := hP
    replace hD : va_D A [(h0, .inr (6, [.ref h1, .ref h2, .ref h3, .ref h4, .ref h5, .ref h6, .int a3, .int a4, .int a5, .int a6])), (h2, .inl (cI, 9, .inl g1)), (h4, .inl (cI, 9, .inl g3)), (h5, .inl (cI, 81, .inl g4)), (h7, .inl (cI, 360, .inl g5)), (h8, .inl (cI, 40, .inl g6)), (h6, .inr (1, [.ref h7, .ref h8, .ref h9, .int a0, .int a1, .int a2])), (h9, .inl (cI, 16, .inl f_22))] := hD
    refine lv_aload_n hx hb dX6_allows_105 rfl (lv_at hl 0 rfl) ?_
    refine va_get (D := (dC, dI)) (ci := 6) (v := .ref h6) (C := RX6) (T := TX6) (N := 10) hx hb hts hinX6 hown hK hP 0 rfl rfl 5 (by decide) (hts (.fieldLink RX6 31 "MayRings$Valley" "law" "LMayRings$Law;") (List.mem_of_getElem? (i := 2) rfl)) (fun _ h9 => h9) rfl dX6_allows_106 ?_
    have hPc := hP.sub (ws' := [(h6, .inr (1, [.ref h7, .ref h8, .ref h9, .int a0, .int a1, .int a2])), (h7, .inl (cI, 360, .inl g5)), (h8, .inl (cI, 40, .inl g6)), (h9, .inl (cI, 16, .inl f_22))]) [6, 4, 5, 7] rfl
    have hDc := hD.sub (ws' := [(h6, .inr (1, [.ref h7, .ref h8, .ref h9, .int a0, .int a1, .int a2])), (h7, .inl (cI, 360, .inl g5)), (h8, .inl (cI, 40, .inl g6)), (h9, .inl (cI, 16, .inl f_22))]) [6, 4, 5, 7] (by decide) rfl
    have hFc := va_free (wc := [(h6, .inr (1, [.ref h7, .ref h8, .ref h9, .int a0, .int a1, .int a2])), (h7, .inl (cI, 360, .inl g5)), (h8, .inl (cI, 40, .inl g6)), (h9, .inl (cI, 16, .inl f_22))]) hD hS hA [6, 4, 5, 7] rfl
    refine va_calli (va_runV (As := []) (rest := []) ⟨hx, hb, hml, hown, hts⟩ (c_s_X1_value l dC dI cB cI cJ cZ cP h6 h7 g5 h8 g6 h9 f_22 a0 (rg_mono ha0 (by decide) (by decide)) a1 a2 H.size) (cwV 0 hts (gd_V (List.mem_of_getElem? (i := 16) rfl) (List.mem_of_getElem? (i := 17) rfl) (List.mem_of_getElem? (i := 18) rfl) (List.mem_of_getElem? (i := 11) rfl) (gd_mono k_s_X1_value (fun _ h => List.mem_cons_of_mem _ (List.mem_append_right _ (List.mem_append_right _ (List.mem_append_right _ (List.mem_append_left _ h))))))) rfl rfl rfl (by decide +kernel) ⟨Nat.le_of_ble_eq_true rfl, Nat.le_of_ble_eq_true rfl⟩) ⟨fun a U g mk q => by obtain ⟨q0, q1, qP, qK, qD⟩ := q; exact ⟨q0, q1, qP, va_K.moved (u := U) (U := U.calling g mk a) (Vm.Alike.refl U.vm) qK, qD⟩, va_recv hK hPc (ci := 1) (q0 := 0) rfl rfl, fun U hU hW => ⟨rfl, by rw [hU], by rw [hU]; exact hPc, va_K.moved hW.alike hK, hDc.weaken (fun _ _ _ _ => trivial)⟩⟩ rfl rfl hl.1 rfl (lv_room (Nat.le_of_ble_eq_true rfl)) dX6_allows_109 ⟨Nat.le_of_ble_eq_true rfl, Nat.le_of_ble_eq_true rfl⟩) hS (fun q _ h => hFc q h) hFc (fun r_23 u t H1 locs ht hvm hw hB hz1 hk1 hS => ?_)
    obtain ⟨x_24, f_25, hx_24, hP1, hD1⟩ := hB
    rw [ht] at hP1
    obtain ⟨hP, hD⟩ := va_join (wr := [(h0, .inr (6, [.ref h1, .ref h2, .ref h3, .ref h4, .ref h5, .ref h6, .int a3, .int a4, .int a5, .int a6])), (h2, .inl (cI, 9, .inl g1)), (h4, .inl (cI, 9, .inl g3)), (h5, .inl (cI, 81, .inl g4))]) (w1 := [(h6, .inr (1, [.ref h7, .ref h8, .ref h9, .int a0, .int x_24, .int a2])), (h7, .inl (cI, 360, .inl g5)), (h8, .inl (cI, 40, .inl f_25)), (h9, .inl (cI, 16, .inl f_22))]) hP hD [6, 4, 5, 7] [0, 1, 2, 3] rfl rfl (by decide) (by decide) hk1 hFc hP1 hD1
    generalize H1 = H at hP hS ⊢
    replace hP : va_P (dC, dI) vwCl [(h0, .inr (6, [.ref h1, .ref h2, .ref h3, .ref h4, .ref h5, .ref h6, .int a3, .int a4, .int a5, .int a6])), (h2, .inl (cI, 9, .inl g1)), (h4, .inl (cI, 9, .inl g3)), (h5, .inl (cI, 81, .inl g4)), (h6, .inr (1, [.ref h7, .ref h8, .ref h9, .int a0, .int x_24, .int a2])), (h7, .inl (cI, 360, .inl g5)), (h8, .inl (cI, 40, .inl f_25)), (h9, .inl (cI, 16, .inl f_22))] H := hP
    replace hD : va_D A [(h0, .inr (6, [.ref h1, .ref h2, .ref h3, .ref h4, .ref h5, .ref h6, .int a3, .int a4, .int a5, .int a6])), (h2, .inl (cI, 9, .inl g1)), (h4, .inl (cI, 9, .inl g3)), (h5, .inl (cI, 81, .inl g4)), (h6, .inr (1, [.ref h7, .ref h8, .ref h9, .int a0, .int x_24, .int a2])), (h7, .inl (cI, 360, .inl g5)), (h8, .inl (cI, 40, .inl f_25)), (h9, .inl (cI, 16, .inl f_22))] := hD
    refine lv_if_eq (tgt := 119) hx hb dX6_allows_112 (by decide) (fun c_26 => ?_) (fun c_26 => ?_)
    · skip
      have h_27 : rg (0) (0) r_23 := by have ha := (rg_any r_23); have hb_ := (rg_k (x := 0) (c := 0) (by decide)); simp only [rg, fa_lt, fa_le, fa_eq, (by decide : (0 : Int32).toInt = 0)] at ha hb_ c_26; simp only [rg]; omega
      refine lv_iconst (v := 0) hx hb dX6_allows_119 (by decide) ?_
      have hP9 := hP.sub (ws' := [(h0, .inr (6, [.ref h1, .ref h2, .ref h3, .ref h4, .ref h5, .ref h6, .int a3, .int a4, .int a5, .int a6])), (h2, .inl (cI, 9, .inl g1)), (h4, .inl (cI, 9, .inl g3)), (h5, .inl (cI, 81, .inl g4)), (h6, .inr (1, [.ref h7, .ref h8, .ref h9, .int a0, .int x_24, .int a2])), (h7, .inl (cI, 360, .inl g5)), (h8, .inl (cI, 40, .inl f_25)), (h9, .inl (cI, 16, .inl f_22))]) [0, 1, 2, 3, 4, 5, 6, 7] rfl
      have hD9 := hD.sub (ws' := [(h0, .inr (6, [.ref h1, .ref h2, .ref h3, .ref h4, .ref h5, .ref h6, .int a3, .int a4, .int a5, .int a6])), (h2, .inl (cI, 9, .inl g1)), (h4, .inl (cI, 9, .inl g3)), (h5, .inl (cI, 81, .inl g4)), (h6, .inr (1, [.ref h7, .ref h8, .ref h9, .int a0, .int x_24, .int a2])), (h7, .inl (cI, 360, .inl g5)), (h8, .inl (cI, 40, .inl f_25)), (h9, .inl (cI, 16, .inl f_22))]) [0, 1, 2, 3, 4, 5, 6, 7] (by decide) rfl
      exact W.zret (v := 0) hx hb hr (rfl) (fun t ht hW => ⟨⟨0, (), rfl, (rg_mono (rg_k (x := 0) (c := 0) (by decide)) (by decide) (by decide)), ⟨x_24, f_25, f_22, (rg_mono hx_24 (by decide) (by decide)), by rw [ht]; exact hP9, hD9⟩⟩, hS.F ht⟩) hS.2.2 dX6_allows_120
    · skip
      refine lv_iconst (v := 1) hx hb dX6_allows_115 (by decide) ?_
      refine lv_goto (tgt := 120) hx hb dX6_allows_116 (by decide) ?_
      have hP9 := hP.sub (ws' := [(h0, .inr (6, [.ref h1, .ref h2, .ref h3, .ref h4, .ref h5, .ref h6, .int a3, .int a4, .int a5, .int a6])), (h2, .inl (cI, 9, .inl g1)), (h4, .inl (cI, 9, .inl g3)), (h5, .inl (cI, 81, .inl g4)), (h6, .inr (1, [.ref h7, .ref h8, .ref h9, .int a0, .int x_24, .int a2])), (h7, .inl (cI, 360, .inl g5)), (h8, .inl (cI, 40, .inl f_25)), (h9, .inl (cI, 16, .inl f_22))]) [0, 1, 2, 3, 4, 5, 6, 7] rfl
      have hD9 := hD.sub (ws' := [(h0, .inr (6, [.ref h1, .ref h2, .ref h3, .ref h4, .ref h5, .ref h6, .int a3, .int a4, .int a5, .int a6])), (h2, .inl (cI, 9, .inl g1)), (h4, .inl (cI, 9, .inl g3)), (h5, .inl (cI, 81, .inl g4)), (h6, .inr (1, [.ref h7, .ref h8, .ref h9, .int a0, .int x_24, .int a2])), (h7, .inl (cI, 360, .inl g5)), (h8, .inl (cI, 40, .inl f_25)), (h9, .inl (cI, 16, .inl f_22))]) [0, 1, 2, 3, 4, 5, 6, 7] (by decide) rfl
      exact W.zret (v := 1) hx hb hr (rfl) (fun t ht hW => ⟨⟨1, (), rfl, (rg_mono (rg_k (x := 1) (c := 1) (by decide)) (by decide) (by decide)), ⟨x_24, f_25, f_22, (rg_mono hx_24 (by decide) (by decide)), by rw [ht]; exact hP9, hD9⟩⟩, hS.F ht⟩) hS.2.2 dX6_allows_120
  · skip
    have h_28 : rg (1) (1) x_3 := by have ha := hx_3; have hb_ := (rg_k (x := 1) (c := 1) (by decide)); simp only [rg, fa_lt, fa_le, fa_eq, (by decide : (1 : Int32).toInt = 1)] at ha hb_ c_4; simp only [rg]; omega
    refine lv_iconst (v := 0) hx hb dX6_allows_14 (by decide) ?_
    have hP9 := hP.sub (ws' := [(h0, .inr (6, [.ref h1, .ref h2, .ref h3, .ref h4, .ref h5, .ref h6, .int a3, .int a4, .int a5, .int a6])), (h2, .inl (cI, 9, .inl g1)), (h4, .inl (cI, 9, .inl g3)), (h5, .inl (cI, 81, .inl g4)), (h6, .inr (1, [.ref h7, .ref h8, .ref h9, .int a0, .int a1, .int a2])), (h7, .inl (cI, 360, .inl g5)), (h8, .inl (cI, 40, .inl g6)), (h9, .inl (cI, 16, .inl g7))]) [0, 1, 2, 3, 4, 5, 6, 7] rfl
    have hD9 := hD.sub (ws' := [(h0, .inr (6, [.ref h1, .ref h2, .ref h3, .ref h4, .ref h5, .ref h6, .int a3, .int a4, .int a5, .int a6])), (h2, .inl (cI, 9, .inl g1)), (h4, .inl (cI, 9, .inl g3)), (h5, .inl (cI, 81, .inl g4)), (h6, .inr (1, [.ref h7, .ref h8, .ref h9, .int a0, .int a1, .int a2])), (h7, .inl (cI, 360, .inl g5)), (h8, .inl (cI, 40, .inl g6)), (h9, .inl (cI, 16, .inl g7))]) [0, 1, 2, 3, 4, 5, 6, 7] (by decide) rfl
    exact W.zret (v := 0) hx hb hr (rfl) (fun t ht hW => ⟨⟨0, (), rfl, (rg_mono (rg_k (x := 0) (c := 0) (by decide)) (by decide) (by decide)), ⟨a1, g6, g7, (rg_mono ha1 (by decide) (by decide)), by rw [ht]; exact hP9, hD9⟩⟩, hS.F ht⟩) hS.2.2 dX6_allows_15
def v_s_X6_lightEnough : List Cond := Cond.code yX6_lightEnough cX6_lightEnough 4 (some .int) :: ([Cond.fieldLink RX6 35 "MayRings$Valley" "houses" "I", Cond.fieldLink RX6 15 "MayRings$Valley" "weights" "[I"] ++ (wsX60 ++ ([])))
theorem k_s_X6_lightEnough : GoodIn lw_tbl v_s_X6_lightEnough := gd_c (List.mem_of_getElem? (i := 928) (by decide +kernel)) rfl (goodIn_app (gd_c (List.mem_of_getElem? (i := 224) (by decide +kernel)) rfl (gd_c (List.mem_of_getElem? (i := 211) (by decide +kernel)) rfl (gd_nil))) (goodIn_app kfX6 (gd_nil)))
set_option maxHeartbeats 2000000 in
set_option maxRecDepth 100000 in
theorem c_s_X6_lightEnough (l : Launch) (dC : Nat → ClassId) (dI : Nat → Nat → Nat) (cB cI cJ cZ cP : ClassId) (h0 : Nat) (h1 : Nat) (h2 : Nat) (g1 : Nat → Int32) (h3 : Nat) (h4 : Nat) (h5 : Nat) (h6 : Nat) (a3 : Int32) (ha3 : rg (0) (9) a3) (a4 : Int32) (a5 : Int32) (a6 : Int32) (p0 : Int32) (sz : Nat) : Met l yX6_lightEnough v_s_X6_lightEnough ({ frames := 0, cells := 0, slots := 0, locals := 0 }) (va_Pc [.ref h0, .int p0] (fun U => U.heap.size = sz ∧ va_P (dC, dI) vwCl [(h0, .inr (6, [.ref h1, .ref h2, .ref h3, .ref h4, .ref h5, .ref h6, .int a3, .int a4, .int a5, .int a6])), (h2, .inl (cI, 9, .inl g1))] U.heap ∧ va_K (dC, dI) vwCl (ty5 cB cI cJ cZ cP) U ∧ va_D (fun _ => True) [(h0, .inr (6, [.ref h1, .ref h2, .ref h3, .ref h4, .ref h5, .ref h6, .int a3, .int a4, .int a5, .int a6])), (h2, .inl (cI, 9, .inl g1))])) (va_Qi (fun (r : Int32) (u9 : Unit) => rg (0) (511) r) (fun u9 t => va_P (dC, dI) vwCl [(h0, .inr (6, [.ref h1, .ref h2, .ref h3, .ref h4, .ref h5, .ref h6, .int a3, .int a4, .int a5, .int a6])), (h2, .inl (cI, 9, .inl g1))] t.heap ∧ va_D (va_A [(h0, .inr (6, [.ref h1, .ref h2, .ref h3, .ref h4, .ref h5, .ref h6, .int a3, .int a4, .int a5, .int a6])), (h2, .inl (cI, 9, .inl g1))] sz) [(h0, .inr (6, [.ref h1, .ref h2, .ref h3, .ref h4, .ref h5, .ref h6, .int a3, .int a4, .int a5, .int a6])), (h2, .inl (cI, 9, .inl g1))]) (va_A [(h0, .inr (6, [.ref h1, .ref h2, .ref h3, .ref h4, .ref h5, .ref h6, .int a3, .int a4, .int a5, .int a6])), (h2, .inl (cI, 9, .inl g1))] sz)) 0 0 (va_A [(h0, .inr (6, [.ref h1, .ref h2, .ref h3, .ref h4, .ref h5, .ref h6, .int a3, .int a4, .int a5, .int a6])), (h2, .inl (cI, 9, .inl g1))] sz) := by
  refine Met.ofW (cc := cX6_lightEnough) (maxL := 4) (ret := (some .int)) (by decide) rfl ?_
  intro p e s m args below meth c s₁ B hml hv
  obtain ⟨rfl, hsz, hP, hK, hD0⟩ := hv
  have hx := B.exec
  have hb := B.bytes
  have hr := B.returns
  have hts := atoms_spec (ws := v_s_X6_lightEnough) B.pre
  have hown : s.vm.findClass RX6 = some m.cls := findClass_of_methodNamed B.named
  have hlocks := B.notSynchronized
  have hinX6 : ∀ w ∈ wsX60, w ∈ v_s_X6_lightEnough := fun _ h => List.mem_cons_of_mem _ (List.mem_append_right _ (List.mem_append_left _ h))
  subst hsz
  have hD := hD0.self (sz := s.heap.size)
  generalize hAe : va_A [(h0, .inr (6, [.ref h1, .ref h2, .ref h3, .ref h4, .ref h5, .ref h6, .int a3, .int a4, .int a5, .int a6])), (h2, .inl (cI, 9, .inl g1))] s.heap.size = A at hD ⊢
  have hA : ∀ q : Nat, s.heap.size ≤ q → A q := fun q h => by rw [← hAe]; exact Or.inr h
  have hP : va_P (dC, dI) vwCl [(h0, .inr (6, [.ref h1, .ref h2, .ref h3, .ref h4, .ref h5, .ref h6, .int a3, .int a4, .int a5, .int a6])), (h2, .inl (cI, 9, .inl g1))] s.heap := hP
  have hl := lv_entry ([.ref h0, .int p0]) (n := 4) (Nat.le_of_ble_eq_true rfl)
  rw [lg_entry_eq]
  generalize (lg_sl ([.ref h0, .int p0]) ++ List.replicate (4 - (lg_sl ([.ref h0, .int p0])).length) Slot.unset).toArray = ls at hl ⊢
  have hl : lv_has ls 4 [(0, .ref h0), (1, .int p0)] := hl
  refine W_gen (A := A) hP (fun H locs hP hS => ?_)
  refine lv_iconst (v := 0) hx hb dX6_lightEnough_0 (by decide) ?_
  refine lv_istore_n (lv' := [(2, .int 0), (0, .ref h0), (1, .int p0)]) hx hb dX6_lightEnough_1 rfl hl (by decide) rfl (fun ls hl => ?_)
  refine lv_iconst (v := 0) hx hb dX6_lightEnough_2 (by decide) ?_
  refine lv_istore_n (lv' := [(3, .int 0), (2, .int 0), (0, .ref h0), (1, .int p0)]) hx hb dX6_lightEnough_3 rfl hl (by decide) rfl (fun ls hl => ?_)
  refine W_loopM (σ := Int32 × Int32) (fun u H locs ls => va_P (dC, dI) vwCl [(h0, .inr (6, [.ref h1, .ref h2, .ref h3, .ref h4, .ref h5, .ref h6, .int a3, .int a4, .int a5, .int a6])), (h2, .inl (cI, 9, .inl g1))] H ∧ va_D A [(h0, .inr (6, [.ref h1, .ref h2, .ref h3, .ref h4, .ref h5, .ref h6, .int a3, .int a4, .int a5, .int a6])), (h2, .inl (cI, 9, .inl g1))] ∧ va_S A s.heap H locs ∧ lv_has ls 4 [(3, .int u.1), (2, .int u.2), (0, .ref h0), (1, .int p0)] ∧ rg (0) (9) u.1 ∧ rg (0) (511) u.2) (fun u => ((9) - u.1.toInt).toNat) 4 [] ?_ (0, 0) H locs ls ⟨hP, hD, hS, hl, (rg_mono (rg_k (x := 0) (c := 0) (by decide)) (by decide) (by decide)), (rg_mono (rg_k (x := 0) (c := 0) (by decide)) (by decide) (by decide))⟩
  rintro ⟨x_121, x_122⟩ H locs ls ⟨hP, hD, hS, hl, hx_121, hx_122⟩ ih_136
  replace hP : va_P (dC, dI) vwCl [(h0, .inr (6, [.ref h1, .ref h2, .ref h3, .ref h4, .ref h5, .ref h6, .int a3, .int a4, .int a5, .int a6])), (h2, .inl (cI, 9, .inl g1))] H := hP
  replace hD : va_D A [(h0, .inr (6, [.ref h1, .ref h2, .ref h3, .ref h4, .ref h5, .ref h6, .int a3, .int a4, .int a5, .int a6])), (h2, .inl (cI, 9, .inl g1))] := hD
  replace hl : lv_has ls 4 [(3, .int x_121), (2, .int x_122), (0, .ref h0), (1, .int p0)] := hl
  replace hx_121 : rg (0) (9) x_121 := hx_121
  replace hx_122 : rg (0) (511) x_122 := hx_122
  refine lv_iload_n hx hb dX6_lightEnough_4 rfl (lv_at hl 0 rfl) ?_
  refine lv_aload_n hx hb dX6_lightEnough_5 rfl (lv_at hl 2 rfl) ?_
  refine va_get (D := (dC, dI)) (ci := 6) (v := .int a3) (C := RX6) (T := TX6) (N := 10) hx hb hts hinX6 hown hK hP 0 rfl rfl 6 (by decide) (hts (.fieldLink RX6 35 "MayRings$Valley" "houses" "I") (List.mem_of_getElem? (i := 1) rfl)) (fun _ h9 => h9) rfl dX6_lightEnough_6 ?_
  refine lv_icmp_ge (tgt := 34) hx hb dX6_lightEnough_9 (by decide) (fun c_137 => ?_) (fun c_137 => ?_)
  · skip
    refine lv_iload_n hx hb dX6_lightEnough_34 rfl (lv_at hl 1 rfl) ?_
    have hP9 := hP.sub (ws' := [(h0, .inr (6, [.ref h1, .ref h2, .ref h3, .ref h4, .ref h5, .ref h6, .int a3, .int a4, .int a5, .int a6])), (h2, .inl (cI, 9, .inl g1))]) [0, 1] rfl
    have hD9 := hD.sub (ws' := [(h0, .inr (6, [.ref h1, .ref h2, .ref h3, .ref h4, .ref h5, .ref h6, .int a3, .int a4, .int a5, .int a6])), (h2, .inl (cI, 9, .inl g1))]) [0, 1] (by decide) rfl
    exact W.iret (v := x_122) hx hb hr (fun t ht hW => ⟨⟨x_122, (), rfl, (rg_mono hx_122 (by decide) (by decide)), ⟨by rw [ht]; exact hP9, hD9⟩⟩, hS.F ht⟩) hS.2.2 dX6_lightEnough_35
  · skip
    have h_138 : rg (0) (8) x_121 := by have ha := hx_121; have hb_ := ha3; simp only [rg, fa_lt, fa_le, fa_eq] at ha hb_ c_137; simp only [rg]; omega
    have h_139 : rg (1) (9) a3 := by have ha := h_138; have hb_ := ha3; have hc_ := c_137; simp only [rg, fa_lt, fa_le, fa_eq] at ha hb_ hc_; simp only [rg]; omega
    have h_140 : rg (1) (9) a3 := by have ha := hx_121; have hb_ := ha3; simp only [rg, fa_lt, fa_le, fa_eq] at ha hb_ c_137; simp only [rg]; omega
    refine lv_aload_n hx hb dX6_lightEnough_12 rfl (lv_at hl 2 rfl) ?_
    refine va_get (D := (dC, dI)) (ci := 6) (v := .ref h2) (C := RX6) (T := TX6) (N := 10) hx hb hts hinX6 hown hK hP 0 rfl rfl 1 (by decide) (hts (.fieldLink RX6 15 "MayRings$Valley" "weights" "[I") (List.mem_of_getElem? (i := 2) rfl)) (fun _ h9 => h9) rfl dX6_lightEnough_13 ?_
    refine lv_iload_n hx hb dX6_lightEnough_16 rfl (lv_at hl 0 rfl) ?_
    refine va_iald hx hb hK hP 1 1 rfl rfl (rg_in (n := 9) (rg_mono h_138 (by decide) (by decide))) dX6_lightEnough_17 ?_
    refine lv_topi (fun x_141 ex_141 => ?_)
    refine lv_iload_n hx hb dX6_lightEnough_18 rfl (lv_at hl 3 rfl) ?_
    refine lv_icmp_gt (tgt := 28) hx hb dX6_lightEnough_19 (by decide) (fun c_142 => ?_) (fun c_142 => ?_)
    · skip
      have h_143 : rg (-2147483647) (2147483647) x_141 := by have ha := (rg_any x_141); have hb_ := (rg_any p0); simp only [rg, fa_lt, fa_le, fa_eq] at ha hb_ c_142; simp only [rg]; omega
      have h_144 : rg (-2147483648) (2147483646) p0 := by have ha := h_143; have hb_ := (rg_any p0); have hc_ := c_142; simp only [rg, fa_lt, fa_le, fa_eq] at ha hb_ hc_; simp only [rg]; omega
      have h_145 : rg (-2147483648) (2147483646) p0 := by have ha := (rg_any x_141); have hb_ := (rg_any p0); simp only [rg, fa_lt, fa_le, fa_eq] at ha hb_ c_142; simp only [rg]; omega
      obtain ⟨x_146, ex_146⟩ : ∃ y : Int32, y = x_121 + Int32.ofInt (1) := ⟨_, rfl⟩
      have hx_146 : rg (1) (9) x_146 := by rw [ex_146]; exact rg_mono (rg_add h_138 (rg_k (x := Int32.ofInt (1)) (c := 1) (by decide)) (by decide) (by decide)) (by decide) (by decide)
      have qx_146 : x_146.toInt = x_121.toInt + (1) := by rw [ex_146]; exact rg_addE h_138 (rg_k (x := Int32.ofInt (1)) (c := 1) (by decide)) (by decide) (by decide) (by decide)
      refine lv_iinc (v := x_146) (lv' := [(3, .int x_146), (2, .int x_122), (0, .ref h0), (1, .int p0)]) hx hb dX6_lightEnough_28 hl (k := 0) rfl (ex_146.symm) (by decide) rfl (fun ls hl => ?_)
      clear ex_146
      refine lv_goto (tgt := 4) hx hb dX6_lightEnough_31 (by decide) ?_
      exact ih_136 (x_146, x_122) H locs ls ⟨hP.sub (ws' := [(h0, .inr (6, [.ref h1, .ref h2, .ref h3, .ref h4, .ref h5, .ref h6, .int a3, .int a4, .int a5, .int a6])), (h2, .inl (cI, 9, .inl g1))]) [0, 1] rfl, hD.sub (ws' := [(h0, .inr (6, [.ref h1, .ref h2, .ref h3, .ref h4, .ref h5, .ref h6, .int a3, .int a4, .int a5, .int a6])), (h2, .inl (cI, 9, .inl g1))]) [0, 1] (by decide) rfl, hS, lv_sub hl [0, 1, 2, 3] rfl, (rg_mono hx_146 (by decide) (by decide)), (rg_mono hx_122 (by decide) (by decide))⟩ (by show ((9) - x_146.toInt).toNat < ((9) - x_121.toInt).toNat; have ha := h_138; simp only [rg] at ha; omega)
    · skip
      refine lv_iload_n hx hb dX6_lightEnough_22 rfl (lv_at hl 1 rfl) ?_
      refine lv_iconst (v := 1) hx hb dX6_lightEnough_23 (by decide) ?_
      refine lv_iload_n hx hb dX6_lightEnough_24 rfl (lv_at hl 0 rfl) ?_
      refine lv_ishl hx hb dX6_lightEnough_25 ?_
      refine lv_topi (fun x_147 ex_147 => ?_)
      have hx_147 : rg (1) (256) x_147 := by rw [ex_147]; exact rg_mono (rg_shl1 8 (rg_mono h_138 (by decide) (by decide)) (by decide)) (by decide) (by decide)
      refine lv_ior hx hb dX6_lightEnough_26 ?_
      refine lv_topi (fun x_148 ex_148 => ?_)
      have hx_148 : rg (0) (511) x_148 := by rw [ex_148]; exact rg_mono (rg_or 9 (rg_mono hx_122 (by decide) (by decide)) (rg_mono hx_147 (by decide) (by decide)) (by decide)) (by decide) (by decide)
      refine lv_istore_n (lv' := [(2, .int x_148), (3, .int x_121), (0, .ref h0), (1, .int p0)]) hx hb dX6_lightEnough_27 rfl hl (by decide) rfl (fun ls hl => ?_)
      obtain ⟨x_149, ex_149⟩ : ∃ y : Int32, y = x_121 + Int32.ofInt (1) := ⟨_, rfl⟩
      have hx_149 : rg (1) (9) x_149 := by rw [ex_149]; exact rg_mono (rg_add h_138 (rg_k (x := Int32.ofInt (1)) (c := 1) (by decide)) (by decide) (by decide)) (by decide) (by decide)
      have qx_149 : x_149.toInt = x_121.toInt + (1) := by rw [ex_149]; exact rg_addE h_138 (rg_k (x := Int32.ofInt (1)) (c := 1) (by decide)) (by decide) (by decide) (by decide)
      refine lv_iinc (v := x_149) (lv' := [(3, .int x_149), (2, .int x_148), (0, .ref h0), (1, .int p0)]) hx hb dX6_lightEnough_28 hl (k := 1) rfl (ex_149.symm) (by decide) rfl (fun ls hl => ?_)
      clear ex_149
      refine lv_goto (tgt := 4) hx hb dX6_lightEnough_31 (by decide) ?_
      exact ih_136 (x_149, x_148) H locs ls ⟨hP.sub (ws' := [(h0, .inr (6, [.ref h1, .ref h2, .ref h3, .ref h4, .ref h5, .ref h6, .int a3, .int a4, .int a5, .int a6])), (h2, .inl (cI, 9, .inl g1))]) [0, 1] rfl, hD.sub (ws' := [(h0, .inr (6, [.ref h1, .ref h2, .ref h3, .ref h4, .ref h5, .ref h6, .int a3, .int a4, .int a5, .int a6])), (h2, .inl (cI, 9, .inl g1))]) [0, 1] (by decide) rfl, hS, lv_sub hl [0, 1, 2, 3] rfl, (rg_mono hx_149 (by decide) (by decide)), (rg_mono hx_148 (by decide) (by decide))⟩ (by show ((9) - x_149.toInt).toNat < ((9) - x_121.toInt).toNat; have ha := h_138; simp only [rg] at ha; omega)
def v_s_X7_aheadOf : List Cond := Cond.code yX7_aheadOf cX7_aheadOf 3 (some .int) :: ([Cond.fieldLink RX7 27 "MayRings$Ways" "ahead" "[I"] ++ (wsX70 ++ ([])))
theorem k_s_X7_aheadOf : GoodIn lw_tbl v_s_X7_aheadOf := gd_c (List.mem_of_getElem? (i := 973) (by decide +kernel)) rfl (goodIn_app (gd_c (List.mem_of_getElem? (i := 451) (by decide +kernel)) rfl (gd_nil)) (goodIn_app kfX7 (gd_nil)))
set_option maxHeartbeats 2000000 in
set_option maxRecDepth 100000 in
theorem c_s_X7_aheadOf (l : Launch) (dC : Nat → ClassId) (dI : Nat → Nat → Nat) (cB cI cJ cZ cP : ClassId) (h0 : Nat) (h1 : Nat) (h2 : Nat) (h3 : Nat) (h4 : Nat) (h5 : Nat) (h6 : Nat) (g5 : Nat → Int32) (a0 : Int32) (a1 : Int32) (a2 : Int32) (a3 : Int32) (a4 : Int32) (a5 : Int32) (a6 : Int32) (a7 : Int32) (p0 : Int32) (hp0 : rg (0) (511) p0) (p1 : Int32) (hp1 : rg (0) (8) p1) (sz : Nat) : Met l yX7_aheadOf v_s_X7_aheadOf ({ frames := 0, cells := 0, slots := 0, locals := 0 }) (va_Pc [.ref h0, .int p0, .int p1] (fun U => U.heap.size = sz ∧ va_P (dC, dI) vwCl [(h0, .inr (7, [.ref h1, .ref h2, .ref h3, .ref h4, .ref h5, .ref h6, .int a0, .int a1, .int a2, .int a3, .int a4, .int a5, .int a6, .int a7])), (h6, .inl (cI, 4608, .inl g5))] U.heap ∧ va_K (dC, dI) vwCl (ty5 cB cI cJ cZ cP) U ∧ va_D (fun _ => True) [(h0, .inr (7, [.ref h1, .ref h2, .ref h3, .ref h4, .ref h5, .ref h6, .int a0, .int a1, .int a2, .int a3, .int a4, .int a5, .int a6, .int a7])), (h6, .inl (cI, 4608, .inl g5))])) (va_Qi (fun (r : Int32) (u9 : Unit) => True) (fun u9 t => va_P (dC, dI) vwCl [(h0, .inr (7, [.ref h1, .ref h2, .ref h3, .ref h4, .ref h5, .ref h6, .int a0, .int a1, .int a2, .int a3, .int a4, .int a5, .int a6, .int a7])), (h6, .inl (cI, 4608, .inl g5))] t.heap ∧ va_D (va_A [(h0, .inr (7, [.ref h1, .ref h2, .ref h3, .ref h4, .ref h5, .ref h6, .int a0, .int a1, .int a2, .int a3, .int a4, .int a5, .int a6, .int a7])), (h6, .inl (cI, 4608, .inl g5))] sz) [(h0, .inr (7, [.ref h1, .ref h2, .ref h3, .ref h4, .ref h5, .ref h6, .int a0, .int a1, .int a2, .int a3, .int a4, .int a5, .int a6, .int a7])), (h6, .inl (cI, 4608, .inl g5))]) (va_A [(h0, .inr (7, [.ref h1, .ref h2, .ref h3, .ref h4, .ref h5, .ref h6, .int a0, .int a1, .int a2, .int a3, .int a4, .int a5, .int a6, .int a7])), (h6, .inl (cI, 4608, .inl g5))] sz)) 0 0 (va_A [(h0, .inr (7, [.ref h1, .ref h2, .ref h3, .ref h4, .ref h5, .ref h6, .int a0, .int a1, .int a2, .int a3, .int a4, .int a5, .int a6, .int a7])), (h6, .inl (cI, 4608, .inl g5))] sz) := by
  refine Met.ofW (cc := cX7_aheadOf) (maxL := 3) (ret := (some .int)) (by decide) rfl ?_
  intro p e s m args below meth c s₁ B hml hv
  obtain ⟨rfl, hsz, hP, hK, hD0⟩ := hv
  have hx := B.exec
  have hb := B.bytes
  have hr := B.returns
  have hts := atoms_spec (ws := v_s_X7_aheadOf) B.pre
  have hown : s.vm.findClass RX7 = some m.cls := findClass_of_methodNamed B.named
  have hlocks := B.notSynchronized
  have hinX7 : ∀ w ∈ wsX70, w ∈ v_s_X7_aheadOf := fun _ h => List.mem_cons_of_mem _ (List.mem_append_right _ (List.mem_append_left _ h))
  subst hsz
  have hD := hD0.self (sz := s.heap.size)
  generalize hAe : va_A [(h0, .inr (7, [.ref h1, .ref h2, .ref h3, .ref h4, .ref h5, .ref h6, .int a0, .int a1, .int a2, .int a3, .int a4, .int a5, .int a6, .int a7])), (h6, .inl (cI, 4608, .inl g5))] s.heap.size = A at hD ⊢
  have hA : ∀ q : Nat, s.heap.size ≤ q → A q := fun q h => by rw [← hAe]; exact Or.inr h
  have hP : va_P (dC, dI) vwCl [(h0, .inr (7, [.ref h1, .ref h2, .ref h3, .ref h4, .ref h5, .ref h6, .int a0, .int a1, .int a2, .int a3, .int a4, .int a5, .int a6, .int a7])), (h6, .inl (cI, 4608, .inl g5))] s.heap := hP
  have hl := lv_entry ([.ref h0, .int p0, .int p1]) (n := 3) (Nat.le_of_ble_eq_true rfl)
  rw [lg_entry_eq]
  generalize (lg_sl ([.ref h0, .int p0, .int p1]) ++ List.replicate (3 - (lg_sl ([.ref h0, .int p0, .int p1])).length) Slot.unset).toArray = ls at hl ⊢
  have hl : lv_has ls 3 [(0, .ref h0), (1, .int p0), (2, .int p1)] := hl
  refine W_gen (A := A) hP (fun H locs hP hS => ?_)
  refine lv_aload_n hx hb dX7_aheadOf_0 rfl (lv_at hl 0 rfl) ?_
  refine va_get (D := (dC, dI)) (ci := 7) (v := .ref h6) (C := RX7) (T := TX7) (N := 14) hx hb hts hinX7 hown hK hP 0 rfl rfl 5 (by decide) (hts (.fieldLink RX7 27 "MayRings$Ways" "ahead" "[I") (List.mem_of_getElem? (i := 1) rfl)) (fun _ h9 => h9) rfl dX7_aheadOf_1 ?_
  refine lv_iload_n hx hb dX7_aheadOf_4 rfl (lv_at hl 1 rfl) ?_
  refine lv_bipush (v := 9) hx hb dX7_aheadOf_5 (by decide) ?_
  refine lv_imul hx hb dX7_aheadOf_7 ?_
  refine lv_topi (fun x_1 ex_1 => ?_)
  have hx_1 : rg (0) (4599) x_1 := by rw [ex_1]; exact rg_mono (rg_mul hp0 (rg_k (x := 9) (c := 9) (by decide)) (by decide) (by decide) (by decide)) (by decide) (by decide)
  refine lv_iload_n hx hb dX7_aheadOf_8 rfl (lv_at hl 2 rfl) ?_
  refine lv_iadd hx hb dX7_aheadOf_9 ?_
  refine lv_topi (fun x_2 ex_2 => ?_)
  have hx_2 : rg (0) (4607) x_2 := by rw [ex_2]; exact rg_mono (rg_add hx_1 hp1 (by decide) (by decide)) (by decide) (by decide)
  have qx_2 : x_2.toInt = x_1.toInt + p1.toInt := by rw [ex_2]; exact rg_addQ hx_1 hp1 (by decide) (by decide)
  refine va_iald hx hb hK hP 1 1 rfl rfl (rg_in (n := 4608) (rg_mono hx_2 (by decide) (by decide))) dX7_aheadOf_10 ?_
  refine lv_topi (fun x_3 ex_3 => ?_)
  have hP9 := hP.sub (ws' := [(h0, .inr (7, [.ref h1, .ref h2, .ref h3, .ref h4, .ref h5, .ref h6, .int a0, .int a1, .int a2, .int a3, .int a4, .int a5, .int a6, .int a7])), (h6, .inl (cI, 4608, .inl g5))]) [0, 1] rfl
  have hD9 := hD.sub (ws' := [(h0, .inr (7, [.ref h1, .ref h2, .ref h3, .ref h4, .ref h5, .ref h6, .int a0, .int a1, .int a2, .int a3, .int a4, .int a5, .int a6, .int a7])), (h6, .inl (cI, 4608, .inl g5))]) [0, 1] (by decide) rfl
  exact W.iret (v := x_3) hx hb hr (fun t ht hW => ⟨⟨x_3, (), rfl, trivial, ⟨by rw [ht]; exact hP9, hD9⟩⟩, hS.F ht⟩) hS.2.2 dX7_aheadOf_11
def v_s_X7_nothing : List Cond := Cond.code yX7_nothing cX7_nothing 1 (some .int) :: ([Cond.fieldLink RX7 47 "MayRings$Ways" "sort" "I", Cond.constant RX7 78 (1000000)] ++ (wsX70 ++ ([])))
theorem k_s_X7_nothing : GoodIn lw_tbl v_s_X7_nothing := gd_c (List.mem_of_getElem? (i := 940) (by decide +kernel)) rfl (goodIn_app (gd_c (List.mem_of_getElem? (i := 462) (by decide +kernel)) rfl (gd_c (List.mem_of_getElem? (i := 941) (by decide +kernel)) rfl (gd_nil))) (goodIn_app kfX7 (gd_nil)))
set_option maxHeartbeats 2000000 in
set_option maxRecDepth 100000 in
theorem c_s_X7_nothing (l : Launch) (dC : Nat → ClassId) (dI : Nat → Nat → Nat) (cB cI cJ cZ cP : ClassId) (h0 : Nat) (h1 : Nat) (h2 : Nat) (h3 : Nat) (h4 : Nat) (h5 : Nat) (h6 : Nat) (a0 : Int32) (a1 : Int32) (a2 : Int32) (a3 : Int32) (a4 : Int32) (a5 : Int32) (ha5 : rg (0) (2) a5) (a6 : Int32) (a7 : Int32) (sz : Nat) : Met l yX7_nothing v_s_X7_nothing ({ frames := 0, cells := 0, slots := 0, locals := 0 }) (va_Pc [.ref h0] (fun U => U.heap.size = sz ∧ va_P (dC, dI) vwCl [(h0, .inr (7, [.ref h1, .ref h2, .ref h3, .ref h4, .ref h5, .ref h6, .int a0, .int a1, .int a2, .int a3, .int a4, .int a5, .int a6, .int a7]))] U.heap ∧ va_K (dC, dI) vwCl (ty5 cB cI cJ cZ cP) U ∧ va_D (fun _ => True) [(h0, .inr (7, [.ref h1, .ref h2, .ref h3, .ref h4, .ref h5, .ref h6, .int a0, .int a1, .int a2, .int a3, .int a4, .int a5, .int a6, .int a7]))])) (va_Qi (fun (r : Int32) (u9 : Unit) => rg (-1) (1000000) r) (fun u9 t => va_P (dC, dI) vwCl [(h0, .inr (7, [.ref h1, .ref h2, .ref h3, .ref h4, .ref h5, .ref h6, .int a0, .int a1, .int a2, .int a3, .int a4, .int a5, .int a6, .int a7]))] t.heap ∧ va_D (va_A [(h0, .inr (7, [.ref h1, .ref h2, .ref h3, .ref h4, .ref h5, .ref h6, .int a0, .int a1, .int a2, .int a3, .int a4, .int a5, .int a6, .int a7]))] sz) [(h0, .inr (7, [.ref h1, .ref h2, .ref h3, .ref h4, .ref h5, .ref h6, .int a0, .int a1, .int a2, .int a3, .int a4, .int a5, .int a6, .int a7]))]) (va_A [(h0, .inr (7, [.ref h1, .ref h2, .ref h3, .ref h4, .ref h5, .ref h6, .int a0, .int a1, .int a2, .int a3, .int a4, .int a5, .int a6, .int a7]))] sz)) 0 0 (va_A [(h0, .inr (7, [.ref h1, .ref h2, .ref h3, .ref h4, .ref h5, .ref h6, .int a0, .int a1, .int a2, .int a3, .int a4, .int a5, .int a6, .int a7]))] sz) := by
  refine Met.ofW (cc := cX7_nothing) (maxL := 1) (ret := (some .int)) (by decide) rfl ?_
  intro p e s m args below meth c s₁ B hml hv
  obtain ⟨rfl, hsz, hP, hK, hD0⟩ := hv
  have hx := B.exec
  have hb := B.bytes
  have hr := B.returns
  have hts := atoms_spec (ws := v_s_X7_nothing) B.pre
  have hown : s.vm.findClass RX7 = some m.cls := findClass_of_methodNamed B.named
  have hlocks := B.notSynchronized
  have hinX7 : ∀ w ∈ wsX70, w ∈ v_s_X7_nothing := fun _ h => List.mem_cons_of_mem _ (List.mem_append_right _ (List.mem_append_left _ h))
  subst hsz
  have hD := hD0.self (sz := s.heap.size)
  generalize hAe : va_A [(h0, .inr (7, [.ref h1, .ref h2, .ref h3, .ref h4, .ref h5, .ref h6, .int a0, .int a1, .int a2, .int a3, .int a4, .int a5, .int a6, .int a7]))] s.heap.size = A at hD ⊢
  have hA : ∀ q : Nat, s.heap.size ≤ q → A q := fun q h => by rw [← hAe]; exact Or.inr h
  have hP : va_P (dC, dI) vwCl [(h0, .inr (7, [.ref h1, .ref h2, .ref h3, .ref h4, .ref h5, .ref h6, .int a0, .int a1, .int a2, .int a3, .int a4, .int a5, .int a6, .int a7]))] s.heap := hP
  have hl := lv_entry ([.ref h0]) (n := 1) (Nat.le_of_ble_eq_true rfl)
  rw [lg_entry_eq]
  generalize (lg_sl ([.ref h0]) ++ List.replicate (1 - (lg_sl ([.ref h0])).length) Slot.unset).toArray = ls at hl ⊢
  have hl : lv_has ls 1 [(0, .ref h0)] := hl
  refine W_gen (A := A) hP (fun H locs hP hS => ?_)
  refine lv_aload_n hx hb dX7_nothing_0 rfl (lv_at hl 0 rfl) ?_
  refine va_get (D := (dC, dI)) (ci := 7) (v := .int a5) (C := RX7) (T := TX7) (N := 14) hx hb hts hinX7 hown hK hP 0 rfl rfl 11 (by decide) (hts (.fieldLink RX7 47 "MayRings$Ways" "sort" "I") (List.mem_of_getElem? (i := 1) rfl)) (fun _ h9 => h9) rfl dX7_nothing_1 ?_
  by_cases c_1 : a5 = 0
  · skip
    refine tp_v (.int 0) (congrArg Value.int (c_1)) ?_
    refine lv_lookup (off := 28) (tgt := 32) hx hb dX7_nothing_4 (by decide) (by decide) (by decide) ?_
    have h_2 : rg (0) (0) a5 := by have ha := ha5; have hb_ := (rg_k (x := 0) (c := 0) (by decide)); simp only [rg, fa_lt, fa_le, fa_eq, (by decide : (0 : Int32).toInt = 0)] at ha hb_ c_1; simp only [rg]; omega
    refine lv_iconst (v := 0) hx hb dX7_nothing_32 (by decide) ?_
    have hP9 := hP.sub (ws' := [(h0, .inr (7, [.ref h1, .ref h2, .ref h3, .ref h4, .ref h5, .ref h6, .int a0, .int a1, .int a2, .int a3, .int a4, .int a5, .int a6, .int a7]))]) [0] rfl
    have hD9 := hD.sub (ws' := [(h0, .inr (7, [.ref h1, .ref h2, .ref h3, .ref h4, .ref h5, .ref h6, .int a0, .int a1, .int a2, .int a3, .int a4, .int a5, .int a6, .int a7]))]) [0] (by decide) rfl
    exact W.iret (v := 0) hx hb hr (fun t ht hW => ⟨⟨0, (), rfl, (rg_mono (rg_k (x := 0) (c := 0) (by decide)) (by decide) (by decide)), ⟨by rw [ht]; exact hP9, hD9⟩⟩, hS.F ht⟩) hS.2.2 dX7_nothing_33
  by_cases c_3 : a5 = 1
  · skip
    refine tp_v (.int 1) (congrArg Value.int (c_3)) ?_
    refine lv_lookup (off := 30) (tgt := 34) hx hb dX7_nothing_4 (by decide) (by decide) (by decide) ?_
    have h_4 : rg (1) (1) a5 := by have ha := ha5; have hb_ := (rg_k (x := 1) (c := 1) (by decide)); simp only [rg, fa_lt, fa_le, fa_eq, (by decide : (1 : Int32).toInt = 1)] at ha hb_ c_3; simp only [rg]; omega
    refine lv_ldc (v := 1000000) hx hb hown (hts (.constant RX7 78 (1000000)) (List.mem_of_getElem? (i := 2) rfl)) dX7_nothing_34 ?_
    have hP9 := hP.sub (ws' := [(h0, .inr (7, [.ref h1, .ref h2, .ref h3, .ref h4, .ref h5, .ref h6, .int a0, .int a1, .int a2, .int a3, .int a4, .int a5, .int a6, .int a7]))]) [0] rfl
    have hD9 := hD.sub (ws' := [(h0, .inr (7, [.ref h1, .ref h2, .ref h3, .ref h4, .ref h5, .ref h6, .int a0, .int a1, .int a2, .int a3, .int a4, .int a5, .int a6, .int a7]))]) [0] (by decide) rfl
    exact W.iret (v := 1000000) hx hb hr (fun t ht hW => ⟨⟨1000000, (), rfl, (rg_mono (rg_k (x := 1000000) (c := 1000000) (by decide)) (by decide) (by decide)), ⟨by rw [ht]; exact hP9, hD9⟩⟩, hS.F ht⟩) hS.2.2 dX7_nothing_36
  refine lv_lookup (off := 33) (tgt := 37) hx hb dX7_nothing_4 (by decide) (by have ha := ha5; simp only [rg, fa_eq, (by decide : (0 : Int32).toInt = 0), (by decide : (1 : Int32).toInt = 1)] at ha c_1 c_3; simp only [Op.lookupswitch.offset]; repeat (first | rfl | (rw [if_neg (by omega)]))) (by decide) ?_
  refine lv_iconst (v := (-1)) hx hb dX7_nothing_37 (by decide) ?_
  have hP9 := hP.sub (ws' := [(h0, .inr (7, [.ref h1, .ref h2, .ref h3, .ref h4, .ref h5, .ref h6, .int a0, .int a1, .int a2, .int a3, .int a4, .int a5, .int a6, .int a7]))]) [0] rfl
  have hD9 := hD.sub (ws' := [(h0, .inr (7, [.ref h1, .ref h2, .ref h3, .ref h4, .ref h5, .ref h6, .int a0, .int a1, .int a2, .int a3, .int a4, .int a5, .int a6, .int a7]))]) [0] (by decide) rfl
  exact W.iret (v := (-1)) hx hb hr (fun t ht hW => ⟨⟨(-1), (), rfl, (rg_mono (rg_k (x := (-1)) (c := -1) (by decide)) (by decide) (by decide)), ⟨by rw [ht]; exact hP9, hD9⟩⟩, hS.F ht⟩) hS.2.2 dX7_nothing_38
def v_s_X7_openTo : List Cond := Cond.code yX7_openTo cX7_openTo 4 (some .int) :: ([Cond.methodLink RX7 56 yJ6_bitCount_0f7a4, Cond.static yJ6_bitCount_0f7a4, Cond.initialized RJ6, Cond.fieldLink RX7 34 "MayRings$Ways" "size" "I", Cond.fieldLink RX7 9 "MayRings$Ways" "ground" "[I", Cond.fieldLink RX7 15 "MayRings$Ways" "pairs" "[I"] ++ (wsX70 ++ (v_s_J6_bitCount_0f7a4_b9 ++ ([]))))
theorem k_s_X7_openTo : GoodIn lw_tbl v_s_X7_openTo := gd_c (List.mem_of_getElem? (i := 961) (by decide +kernel)) rfl (goodIn_app (gd_c (List.mem_of_getElem? (i := 923) (by decide +kernel)) rfl (gd_c (List.mem_of_getElem? (i := 878) (by decide +kernel)) rfl (gd_c (List.mem_of_getElem? (i := 147) (by decide +kernel)) rfl (gd_c (List.mem_of_getElem? (i := 454) (by decide +kernel)) rfl (gd_c (List.mem_of_getElem? (i := 440) (by decide +kernel)) rfl (gd_c (List.mem_of_getElem? (i := 443) (by decide +kernel)) rfl (gd_nil))))))) (goodIn_app kfX7 (goodIn_app k_s_J6_bitCount_0f7a4_b9 (gd_nil))))
set_option maxHeartbeats 2000000 in
set_option maxRecDepth 100000 in
theorem c_s_X7_openTo (l : Launch) (dC : Nat → ClassId) (dI : Nat → Nat → Nat) (cB cI cJ cZ cP : ClassId) (h0 : Nat) (h1 : Nat) (g0 : Nat → Int32) (hg0 : rgA (0) (511) g0) (h2 : Nat) (g1 : Nat → Int32) (hg1 : rgA (0) (511) g1) (h3 : Nat) (h4 : Nat) (h5 : Nat) (h6 : Nat) (a0 : Int32) (a1 : Int32) (ha1 : rg (0) (9) a1) (a2 : Int32) (a3 : Int32) (a4 : Int32) (a5 : Int32) (a6 : Int32) (a7 : Int32) (p0 : Int32) (hp0 : rg (0) (511) p0) (p1 : Int32) (hp1 : rg (0) (8) p1) (sz : Nat) : Met l yX7_openTo v_s_X7_openTo ({ frames := 1, cells := 0, slots := 0, locals := 20 }) (va_Pc [.ref h0, .int p0, .int p1] (fun U => U.heap.size = sz ∧ va_P (dC, dI) vwCl [(h0, .inr (7, [.ref h1, .ref h2, .ref h3, .ref h4, .ref h5, .ref h6, .int a0, .int a1, .int a2, .int a3, .int a4, .int a5, .int a6, .int a7])), (h1, .inl (cI, 9, .inl g0)), (h2, .inl (cI, 9, .inl g1))] U.heap ∧ va_K (dC, dI) vwCl (ty5 cB cI cJ cZ cP) U ∧ va_D (fun _ => True) [(h0, .inr (7, [.ref h1, .ref h2, .ref h3, .ref h4, .ref h5, .ref h6, .int a0, .int a1, .int a2, .int a3, .int a4, .int a5, .int a6, .int a7])), (h1, .inl (cI, 9, .inl g0)), (h2, .inl (cI, 9, .inl g1))])) (va_Qi (fun (r : Int32) (u9 : Unit) => rg (0) (511) r ∧ (rg (1) (511) r → rg (0) (510) p0)) (fun u9 t => va_P (dC, dI) vwCl [(h0, .inr (7, [.ref h1, .ref h2, .ref h3, .ref h4, .ref h5, .ref h6, .int a0, .int a1, .int a2, .int a3, .int a4, .int a5, .int a6, .int a7])), (h1, .inl (cI, 9, .inl g0)), (h2, .inl (cI, 9, .inl g1))] t.heap ∧ va_D (va_A [(h0, .inr (7, [.ref h1, .ref h2, .ref h3, .ref h4, .ref h5, .ref h6, .int a0, .int a1, .int a2, .int a3, .int a4, .int a5, .int a6, .int a7])), (h1, .inl (cI, 9, .inl g0)), (h2, .inl (cI, 9, .inl g1))] sz) [(h0, .inr (7, [.ref h1, .ref h2, .ref h3, .ref h4, .ref h5, .ref h6, .int a0, .int a1, .int a2, .int a3, .int a4, .int a5, .int a6, .int a7])), (h1, .inl (cI, 9, .inl g0)), (h2, .inl (cI, 9, .inl g1))]) (va_A [(h0, .inr (7, [.ref h1, .ref h2, .ref h3, .ref h4, .ref h5, .ref h6, .int a0, .int a1, .int a2, .int a3, .int a4, .int a5, .int a6, .int a7])), (h1, .inl (cI, 9, .inl g0)), (h2, .inl (cI, 9, .inl g1))] sz)) 0 0 (va_A [(h0, .inr (7, [.ref h1, .ref h2, .ref h3, .ref h4, .ref h5, .ref h6, .int a0, .int a1, .int a2, .int a3, .int a4, .int a5, .int a6, .int a7])), (h1, .inl (cI, 9, .inl g0)), (h2, .inl (cI, 9, .inl g1))] sz) := by
  refine Met.ofW (cc := cX7_openTo) (maxL := 4) (ret := (some .int)) (by decide) rfl ?_
  intro p e s m args below meth c s₁ B hml hv
  obtain ⟨rfl, hsz, hP, hK, hD0⟩ := hv
  have hx := B.exec
  have hb := B.bytes
  have hr := B.returns
  have hts := atoms_spec (ws := v_s_X7_openTo) B.pre
  have hown : s.vm.findClass RX7 = some m.cls := findClass_of_methodNamed B.named
  have hlocks := B.notSynchronized
  have hinX7 : ∀ w ∈ wsX70, w ∈ v_s_X7_openTo := fun _ h => List.mem_cons_of_mem _ (List.mem_append_right _ (List.mem_append_left _ h))
  subst hsz
  have hD := hD0.self (sz := s.heap.size)
  generalize hAe : va_A [(h0, .inr (7, [.ref h1, .ref h2, .ref h3, .ref h4, .ref h5, .ref h6, .int a0, .int a1, .int a2, .int a3, .int a4, .int a5, .int a6, .int a7])), (h1, .inl (cI, 9, .inl g0)), (h2, .inl (cI, 9, .inl g1))] s.heap.size = A at hD ⊢
  have hA : ∀ q : Nat, s.heap.size ≤ q → A q := fun q h => by rw [← hAe]; exact Or.inr h
  have hP : va_P (dC, dI) vwCl [(h0, .inr (7, [.ref h1, .ref h2, .ref h3, .ref h4, .ref h5, .ref h6, .int a0, .int a1, .int a2, .int a3, .int a4, .int a5, .int a6, .int a7])), (h1, .inl (cI, 9, .inl g0)), (h2, .inl (cI, 9, .inl g1))] s.heap := hP
  have hl := lv_entry ([.ref h0, .int p0, .int p1]) (n := 4) (Nat.le_of_ble_eq_true rfl)
  rw [lg_entry_eq]
  generalize (lg_sl ([.ref h0, .int p0, .int p1]) ++ List.replicate (4 - (lg_sl ([.ref h0, .int p0, .int p1])).length) Slot.unset).toArray = ls at hl ⊢
  have hl : lv_has ls 4 [(0, .ref h0), (1, .int p0), (2, .int p1)] := hl
  refine W_gen (A := A) hP (fun H locs hP hS => ?_)
  refine lv_iload_n hx hb dX7_openTo_0 rfl (lv_at hl 1 rfl) ?_
  have hPc := hP.sub (ws' := []) [] rfl
  have hDc := hD.sub (ws' := []) [] (by decide) rfl
  have hFc := va_free (wc := []) hD hS hA [] rfl
  refine va_calli (va_runS (As := [.int p0]) (rest := []) ⟨hx, hb, hml, hown, hts⟩ (c_s_J6_bitCount_0f7a4_b9 l dC dI cB cI cJ cZ cP p0 (rg_mono hp0 (by decide) (by decide)) H.size) (va_cwS 1 hts (gd_S (List.mem_of_getElem? (i := 1) rfl) (List.mem_of_getElem? (i := 2) rfl) (List.mem_of_getElem? (i := 3) rfl) (gd_mono k_s_J6_bitCount_0f7a4_b9 (fun _ h => List.mem_cons_of_mem _ (List.mem_append_right _ (List.mem_append_right _ (List.mem_append_left _ h)))))) rfl rfl rfl (by decide +kernel) ⟨Nat.le_of_ble_eq_true rfl, Nat.le_of_ble_eq_true rfl⟩) ⟨fun a U g mk q => by obtain ⟨q0, q1, qP, qK, qD⟩ := q; exact ⟨q0, q1, qP, va_K.moved (u := U) (U := U.calling g mk a) (Vm.Alike.refl U.vm) qK, qD⟩, fun U hU hW => ⟨rfl, by rw [hU], by rw [hU]; exact hPc, va_K.moved hW.alike hK, hDc.weaken (fun _ _ _ _ => trivial)⟩⟩ rfl rfl hl.1 rfl (lv_room (Nat.le_of_ble_eq_true rfl)) dX7_openTo_1 ⟨Nat.le_of_ble_eq_true rfl, Nat.le_of_ble_eq_true rfl⟩) hS (fun q _ h => hFc q h) hFc (fun r_1 u t H1 locs ht hvm hw hB hz1 hk1 hS => ?_)
  obtain ⟨hu9, hw⟩ := hw
  rw [hu9] at hB
  clear hu9
  obtain ⟨k_2, hP1, hD1⟩ := hB
  rw [ht] at hP1
  obtain ⟨hP, hD⟩ := va_join (wr := [(h0, .inr (7, [.ref h1, .ref h2, .ref h3, .ref h4, .ref h5, .ref h6, .int a0, .int a1, .int a2, .int a3, .int a4, .int a5, .int a6, .int a7])), (h1, .inl (cI, 9, .inl g0)), (h2, .inl (cI, 9, .inl g1))]) (w1 := []) hP hD [] [0, 1, 2] rfl rfl (by decide) (by decide) hk1 hFc hP1 hD1
  generalize H1 = H at hP hS ⊢
  replace hP : va_P (dC, dI) vwCl [(h0, .inr (7, [.ref h1, .ref h2, .ref h3, .ref h4, .ref h5, .ref h6, .int a0, .int a1, .int a2, .int a3, .int a4, .int a5, .int a6, .int a7])), (h1, .inl (cI, 9, .inl g0)), (h2, .inl (cI, 9, .inl g1))] H := hP
  replace hD : va_D A [(h0, .inr (7, [.ref h1, .ref h2, .ref h3, .ref h4, .ref h5, .ref h6, .int a0, .int a1, .int a2, .int a3, .int a4, .int a5, .int a6, .int a7])), (h1, .inl (cI, 9, .inl g0)), (h2, .inl (cI, 9, .inl g1))] := hD
  have hr_1 : rg (0) (9) r_1 := hw.1
  have kr_1_0 : rg (0) (8) r_1 → rg (0) (510) p0 := hw.2
  refine lv_istore_n (lv' := [(3, .int r_1), (0, .ref h0), (1, .int p0), (2, .int p1)]) hx hb dX7_openTo_4 rfl hl (by decide) rfl (fun ls hl => ?_)
  refine lv_iload_n hx hb dX7_openTo_5 rfl (lv_at hl 0 rfl) ?_
  refine lv_aload_n hx hb dX7_openTo_6 rfl (lv_at hl 1 rfl) ?_
  refine va_get (D := (dC, dI)) (ci := 7) (v := .int a1) (C := RX7) (T := TX7) (N := 14) hx hb hts hinX7 hown hK hP 0 rfl rfl 7 (by decide) (hts (.fieldLink RX7 34 "MayRings$Ways" "size" "I") (List.mem_of_getElem? (i := 4) rfl)) (fun _ h9 => h9) rfl dX7_openTo_7 ?_
  refine lv_icmp_ge (tgt := 33) hx hb dX7_openTo_10 (by decide) (fun c_3 => ?_) (fun c_3 => ?_)
  · skip
    refine lv_iconst (v := 0) hx hb dX7_openTo_33 (by decide) ?_
    have hP9 := hP.sub (ws' := [(h0, .inr (7, [.ref h1, .ref h2, .ref h3, .ref h4, .ref h5, .ref h6, .int a0, .int a1, .int a2, .int a3, .int a4, .int a5, .int a6, .int a7])), (h1, .inl (cI, 9, .inl g0)), (h2, .inl (cI, 9, .inl g1))]) [0, 1, 2] rfl
    have hD9 := hD.sub (ws' := [(h0, .inr (7, [.ref h1, .ref h2, .ref h3, .ref h4, .ref h5, .ref h6, .int a0, .int a1, .int a2, .int a3, .int a4, .int a5, .int a6, .int a7])), (h1, .inl (cI, 9, .inl g0)), (h2, .inl (cI, 9, .inl g1))]) [0, 1, 2] (by decide) rfl
    exact W.iret (v := 0) hx hb hr (fun t ht hW => ⟨⟨0, (), rfl, ⟨(rg_mono (rg_k (x := 0) (c := 0) (by decide)) (by decide) (by decide)), fun hq => (rg_off (rg_k (x := 0) (c := 0) (by decide)) hq (by decide)).elim⟩, ⟨by rw [ht]; exact hP9, hD9⟩⟩, hS.F ht⟩) hS.2.2 dX7_openTo_34
  · skip
    have h_4 : rg (0) (8) r_1 := by have ha := hr_1; have hb_ := ha1; simp only [rg, fa_lt, fa_le, fa_eq] at ha hb_ c_3; simp only [rg]; omega
    have h_5 : rg (0) (510) p0 := rg_meet hp0 (kr_1_0 (rg_mono h_4 (by decide) (by decide))) (by decide) (by decide)
    have h_6 : rg (1) (9) a1 := by have ha := h_4; have hb_ := ha1; have hc_ := c_3; simp only [rg, fa_lt, fa_le, fa_eq] at ha hb_ hc_; simp only [rg]; omega
    have h_7 : rg (1) (9) a1 := by have ha := hr_1; have hb_ := ha1; simp only [rg, fa_lt, fa_le, fa_eq] at ha hb_ c_3; simp only [rg]; omega
    refine lv_aload_n hx hb dX7_openTo_13 rfl (lv_at hl 1 rfl) ?_
    refine va_get (D := (dC, dI)) (ci := 7) (v := .ref h1) (C := RX7) (T := TX7) (N := 14) hx hb hts hinX7 hown hK hP 0 rfl rfl 0 (by decide) (hts (.fieldLink RX7 9 "MayRings$Ways" "ground" "[I") (List.mem_of_getElem? (i := 5) rfl)) (fun _ h9 => h9) rfl dX7_openTo_14 ?_
    refine lv_iload_n hx hb dX7_openTo_17 rfl (lv_at hl 0 rfl) ?_
    refine va_iald hx hb hK hP 1 1 rfl rfl (rg_in (n := 9) (rg_mono h_4 (by decide) (by decide))) dX7_openTo_18 ?_
    refine lv_topi (fun x_8 ex_8 => ?_)
    have hx_8 : rg (0) (511) x_8 := by rw [ex_8]; exact rg_mono (hg0 _) (by decide) (by decide)
    refine lv_aload_n hx hb dX7_openTo_19 rfl (lv_at hl 1 rfl) ?_
    refine va_get (D := (dC, dI)) (ci := 7) (v := .ref h2) (C := RX7) (T := TX7) (N := 14) hx hb hts hinX7 hown hK hP 0 rfl rfl 1 (by decide) (hts (.fieldLink RX7 15 "MayRings$Ways" "pairs" "[I") (List.mem_of_getElem? (i := 6) rfl)) (fun _ h9 => h9) rfl dX7_openTo_20 ?_
    refine lv_iload_n hx hb dX7_openTo_23 rfl (lv_at hl 3 rfl) ?_
    refine va_iald hx hb hK hP 2 1 rfl rfl (rg_in (n := 9) (rg_mono hp1 (by decide) (by decide))) dX7_openTo_24 ?_
    refine lv_topi (fun x_9 ex_9 => ?_)
    have hx_9 : rg (0) (511) x_9 := by rw [ex_9]; exact rg_mono (hg1 _) (by decide) (by decide)
    refine lv_iand hx hb dX7_openTo_25 ?_
    refine lv_topi (fun x_10 ex_10 => ?_)
    have hx_10 : rg (0) (511) x_10 := by rw [ex_10]; exact rg_mono (rg_andl (b := 511) (rg_mono hx_8 (by decide) (by decide))) (by decide) (by decide)
    have kx_10_0 : rg 1 2147483647 x_10 → rg 1 (511) x_8 := fun hq => rg_andP hx_8 (ex_10 ▸ hq)
    have kx_10_1 : rg 1 2147483647 x_10 → rg 1 (511) x_9 := fun hq => rg_andP' hx_9 (ex_10 ▸ hq)
    refine lv_iload_n hx hb dX7_openTo_26 rfl (lv_at hl 2 rfl) ?_
    refine lv_iconst (v := (-1)) hx hb dX7_openTo_27 (by decide) ?_
    refine lv_ixor hx hb dX7_openTo_28 ?_
    refine lv_topi (fun x_11 ex_11 => ?_)
    refine lv_iand hx hb dX7_openTo_29 ?_
    refine lv_topi (fun x_12 ex_12 => ?_)
    have hx_12 : rg (0) (511) x_12 := by rw [ex_12]; exact rg_mono (rg_andl (b := 511) (rg_mono hx_10 (by decide) (by decide))) (by decide) (by decide)
    have kx_12_0 : rg 1 2147483647 x_12 → rg 1 (511) x_10 := fun hq => rg_andP hx_10 (ex_12 ▸ hq)
    refine lv_goto (tgt := 34) hx hb dX7_openTo_30 (by decide) ?_
    have hP9 := hP.sub (ws' := [(h0, .inr (7, [.ref h1, .ref h2, .ref h3, .ref h4, .ref h5, .ref h6, .int a0, .int a1, .int a2, .int a3, .int a4, .int a5, .int a6, .int a7])), (h1, .inl (cI, 9, .inl g0)), (h2, .inl (cI, 9, .inl g1))]) [0, 1, 2] rfl
    have hD9 := hD.sub (ws' := [(h0, .inr (7, [.ref h1, .ref h2, .ref h3, .ref h4, .ref h5, .ref h6, .int a0, .int a1, .int a2, .int a3, .int a4, .int a5, .int a6, .int a7])), (h1, .inl (cI, 9, .inl g0)), (h2, .inl (cI, 9, .inl g1))]) [0, 1, 2] (by decide) rfl
    exact W.iret (v := x_12) hx hb hr (fun t ht hW => ⟨⟨x_12, (), rfl, ⟨(rg_mono hx_12 (by decide) (by decide)), fun _ => (rg_mono h_5 (by decide) (by decide))⟩, ⟨by rw [ht]; exact hP9, hD9⟩⟩, hS.F ht⟩) hS.2.2 dX7_openTo_34
def v_s_X7_keepsLetters : List Cond := Cond.code yX7_keepsLetters cX7_keepsLetters 5 (some .boolean) :: ([Cond.fieldLink RX7 37 "MayRings$Ways" "closes" "Z", Cond.fieldLink RX7 18 "MayRings$Ways" "must" "[I", Cond.fieldLink RX7 30 "MayRings$Ways" "houses" "I", Cond.fieldLink RX7 53 "MayRings$Ways" "start" "I"] ++ (wsX70 ++ ([])))
theorem k_s_X7_keepsLetters : GoodIn lw_tbl v_s_X7_keepsLetters := gd_c (List.mem_of_getElem? (i := 965) (by decide +kernel)) rfl (goodIn_app (gd_c (List.mem_of_getElem? (i := 457) (by decide +kernel)) rfl (gd_c (List.mem_of_getElem? (i := 446) (by decide +kernel)) rfl (gd_c (List.mem_of_getElem? (i := 452) (by decide +kernel)) rfl (gd_c (List.mem_of_getElem? (i := 464) (by decide +kernel)) rfl (gd_nil))))) (goodIn_app kfX7 (gd_nil)))
set_option maxHeartbeats 2000000 in
set_option maxRecDepth 100000 in
theorem c_s_X7_keepsLetters (l : Launch) (dC : Nat → ClassId) (dI : Nat → Nat → Nat) (cB cI cJ cZ cP : ClassId) (h0 : Nat) (h1 : Nat) (h2 : Nat) (h3 : Nat) (g2 : Nat → Int32) (hg2 : rgA (0) (511) g2) (h4 : Nat) (h5 : Nat) (h6 : Nat) (a0 : Int32) (a1 : Int32) (a2 : Int32) (ha2 : rg (0) (1) a2) (a3 : Int32) (a4 : Int32) (a5 : Int32) (a6 : Int32) (a7 : Int32) (ha7 : rg (0) (8) a7) (p0 : Int32) (hp0 : rg (0) (511) p0) (p1 : Int32) (hp1 : rg (0) (8) p1) (p2 : Int32) (hp2 : rg (0) (8) p2) (sz : Nat) : Met l yX7_keepsLetters v_s_X7_keepsLetters ({ frames := 0, cells := 0, slots := 0, locals := 0 }) (va_Pc [.ref h0, .int p0, .int p1, .int p2] (fun U => U.heap.size = sz ∧ va_P (dC, dI) vwCl [(h0, .inr (7, [.ref h1, .ref h2, .ref h3, .ref h4, .ref h5, .ref h6, .int a0, .int a1, .int a2, .int a3, .int a4, .int a5, .int a6, .int a7])), (h3, .inl (cI, 9, .inl g2))] U.heap ∧ va_K (dC, dI) vwCl (ty5 cB cI cJ cZ cP) U ∧ va_D (fun _ => True) [(h0, .inr (7, [.ref h1, .ref h2, .ref h3, .ref h4, .ref h5, .ref h6, .int a0, .int a1, .int a2, .int a3, .int a4, .int a5, .int a6, .int a7])), (h3, .inl (cI, 9, .inl g2))])) (va_Qi (fun (r : Int32) (u9 : Unit) => rg (0) (1) r) (fun u9 t => va_P (dC, dI) vwCl [(h0, .inr (7, [.ref h1, .ref h2, .ref h3, .ref h4, .ref h5, .ref h6, .int a0, .int a1, .int a2, .int a3, .int a4, .int a5, .int a6, .int a7])), (h3, .inl (cI, 9, .inl g2))] t.heap ∧ va_D (va_A [(h0, .inr (7, [.ref h1, .ref h2, .ref h3, .ref h4, .ref h5, .ref h6, .int a0, .int a1, .int a2, .int a3, .int a4, .int a5, .int a6, .int a7])), (h3, .inl (cI, 9, .inl g2))] sz) [(h0, .inr (7, [.ref h1, .ref h2, .ref h3, .ref h4, .ref h5, .ref h6, .int a0, .int a1, .int a2, .int a3, .int a4, .int a5, .int a6, .int a7])), (h3, .inl (cI, 9, .inl g2))]) (va_A [(h0, .inr (7, [.ref h1, .ref h2, .ref h3, .ref h4, .ref h5, .ref h6, .int a0, .int a1, .int a2, .int a3, .int a4, .int a5, .int a6, .int a7])), (h3, .inl (cI, 9, .inl g2))] sz)) 0 0 (va_A [(h0, .inr (7, [.ref h1, .ref h2, .ref h3, .ref h4, .ref h5, .ref h6, .int a0, .int a1, .int a2, .int a3, .int a4, .int a5, .int a6, .int a7])), (h3, .inl (cI, 9, .inl g2))] sz) := by
  refine Met.ofW (cc := cX7_keepsLetters) (maxL := 5) (ret := (some .boolean)) (by decide) rfl ?_
  intro p e s m args below meth c s₁ B hml hv
  obtain ⟨rfl, hsz, hP, hK, hD0⟩ := hv
  have hx := B.exec
  have hb := B.bytes
  have hr := B.returns
  have hts := atoms_spec (ws := v_s_X7_keepsLetters) B.pre
  have hown : s.vm.findClass RX7 = some m.cls := findClass_of_methodNamed B.named
  have hlocks := B.notSynchronized
  have hinX7 : ∀ w ∈ wsX70, w ∈ v_s_X7_keepsLetters := fun _ h => List.mem_cons_of_mem _ (List.mem_append_right _ (List.mem_append_left _ h))
  subst hsz
  have hD := hD0.self (sz := s.heap.size)
  generalize hAe : va_A [(h0, .inr (7, [.ref h1, .ref h2, .ref h3, .ref h4, .ref h5, .ref h6, .int a0, .int a1, .int a2, .int a3, .int a4, .int a5, .int a6, .int a7])), (h3, .inl (cI, 9, .inl g2))] s.heap.size = A at hD ⊢
  have hA : ∀ q : Nat, s.heap.size ≤ q → A q := fun q h => by rw [← hAe]; exact Or.inr h
  have hP : va_P (dC, dI) vwCl [(h0, .inr (7, [.ref h1, .ref h2, .ref h3, .ref h4, .ref h5, .ref h6, .int a0, .int a1, .int a2, .int a3, .int a4, .int a5, .int a6, .int a7])), (h3, .inl (cI, 9, .inl g2))] s.heap := hP
  have hl := lv_entry ([.ref h0, .int p0, .int p1, .int p2]) (n := 5) (Nat.le_of_ble_eq_true rfl)
  rw [lg_entry_eq]
  generalize (lg_sl ([.ref h0, .int p0, .int p1, .int p2]) ++ List.replicate (5 - (lg_sl ([.ref h0, .int p0, .int p1, .int p2])).length) Slot.unset).toArray = ls at hl ⊢
  have hl : lv_has ls 5 [(0, .ref h0), (1, .int p0), (2, .int p1), (3, .int p2)] := hl
  refine W_gen (A := A) hP (fun H locs hP hS => ?_)
  refine lv_iconst (v := 1) hx hb dX7_keepsLetters_0 (by decide) ?_
  refine lv_iload_n hx hb dX7_keepsLetters_1 rfl (lv_at hl 2 rfl) ?_
  refine lv_ishl hx hb dX7_keepsLetters_2 ?_
  refine lv_topi (fun x_1 ex_1 => ?_)
  have hx_1 : rg (1) (256) x_1 := by rw [ex_1]; exact rg_mono (rg_shl1 8 (rg_mono hp1 (by decide) (by decide)) (by decide)) (by decide) (by decide)
  refine lv_istore (lv' := [(4, .int x_1), (0, .ref h0), (1, .int p0), (2, .int p1), (3, .int p2)]) hx hb dX7_keepsLetters_3 hl (by decide) rfl (fun ls hl => ?_)
  refine lv_aload_n hx hb dX7_keepsLetters_5 rfl (lv_at hl 1 rfl) ?_
  refine va_get (D := (dC, dI)) (ci := 7) (v := .int a2) (C := RX7) (T := TX7) (N := 14) hx hb hts hinX7 hown hK hP 0 rfl rfl 8 (by decide) (hts (.fieldLink RX7 37 "MayRings$Ways" "closes" "Z") (List.mem_of_getElem? (i := 1) rfl)) (fun _ h9 => h9) rfl dX7_keepsLetters_6 ?_
  refine lv_if_eq (tgt := 35) hx hb dX7_keepsLetters_9 (by decide) (fun c_2 => ?_) (fun c_2 => ?_)
  · skip
    have h_3 : rg (0) (0) a2 := by have ha := ha2; have hb_ := (rg_k (x := 0) (c := 0) (by decide)); simp only [rg, fa_lt, fa_le, fa_eq, (by decide : (0 : Int32).toInt = 0)] at ha hb_ c_2; simp only [rg]; omega
    refine lv_aload_n hx hb dX7_keepsLetters_35 rfl (lv_at hl 1 rfl) ?_
    refine va_get (D := (dC, dI)) (ci := 7) (v := .ref h3) (C := RX7) (T := TX7) (N := 14) hx hb hts hinX7 hown hK hP 0 rfl rfl 2 (by decide) (hts (.fieldLink RX7 18 "MayRings$Ways" "must" "[I") (List.mem_of_getElem? (i := 2) rfl)) (fun _ h9 => h9) rfl dX7_keepsLetters_36 ?_
    refine lv_iload_n hx hb dX7_keepsLetters_39 rfl (lv_at hl 4 rfl) ?_
    refine va_iald hx hb hK hP 1 1 rfl rfl (rg_in (n := 9) (rg_mono hp2 (by decide) (by decide))) dX7_keepsLetters_40 ?_
    refine lv_topi (fun x_4 ex_4 => ?_)
    have hx_4 : rg (0) (511) x_4 := by rw [ex_4]; exact rg_mono (hg2 _) (by decide) (by decide)
    refine lv_iload_n hx hb dX7_keepsLetters_41 rfl (lv_at hl 2 rfl) ?_
    refine lv_iand hx hb dX7_keepsLetters_42 ?_
    refine lv_topi (fun x_5 ex_5 => ?_)
    have hx_5 : rg (0) (511) x_5 := by rw [ex_5]; exact rg_mono (rg_andl (b := 511) (rg_mono hx_4 (by decide) (by decide))) (by decide) (by decide)
    have kx_5_0 : rg 1 2147483647 x_5 → rg 1 (511) x_4 := fun hq => rg_andP hx_4 (ex_5 ▸ hq)
    have kx_5_1 : rg 1 2147483647 x_5 → rg 1 (511) p0 := fun hq => rg_andP' hp0 (ex_5 ▸ hq)
    refine lv_iload hx hb dX7_keepsLetters_43 (lv_at hl 0 rfl) ?_
    refine lv_iconst (v := (-1)) hx hb dX7_keepsLetters_45 (by decide) ?_
    refine lv_ixor hx hb dX7_keepsLetters_46 ?_
    refine lv_topi (fun x_6 ex_6 => ?_)
    refine lv_iand hx hb dX7_keepsLetters_47 ?_
    refine lv_topi (fun x_7 ex_7 => ?_)
    have hx_7 : rg (0) (511) x_7 := by rw [ex_7]; exact rg_mono (rg_andl (b := 511) (rg_mono hx_5 (by decide) (by decide))) (by decide) (by decide)
    have kx_7_0 : rg 1 2147483647 x_7 → rg 1 (511) x_5 := fun hq => rg_andP hx_5 (ex_7 ▸ hq)
    refine lv_if_ne (tgt := 55) hx hb dX7_keepsLetters_48 (by decide) (fun c_8 => ?_) (fun c_8 => ?_)
    · skip
      have h_9 : rg (1) (511) x_7 := by have ha := hx_7; have hb_ := (rg_k (x := 0) (c := 0) (by decide)); simp only [rg, fa_lt, fa_le, fa_eq, (by decide : (0 : Int32).toInt = 0)] at ha hb_ c_8; simp only [rg]; omega
      have h_10 : rg (1) (511) x_5 := rg_meet hx_5 (kx_7_0 (rg_mono h_9 (by decide) (by decide))) (by decide) (by decide)
      have h_11 : rg (1) (511) x_4 := rg_meet hx_4 (kx_5_0 (rg_mono h_10 (by decide) (by decide))) (by decide) (by decide)
      have h_12 : rg (1) (511) p0 := rg_meet hp0 (kx_5_1 (rg_mono h_10 (by decide) (by decide))) (by decide) (by decide)
      refine lv_iconst (v := 0) hx hb dX7_keepsLetters_55 (by decide) ?_
      have hP9 := hP.sub (ws' := [(h0, .inr (7, [.ref h1, .ref h2, .ref h3, .ref h4, .ref h5, .ref h6, .int a0, .int a1, .int a2, .int a3, .int a4, .int a5, .int a6, .int a7])), (h3, .inl (cI, 9, .inl g2))]) [0, 1] rfl
      have hD9 := hD.sub (ws' := [(h0, .inr (7, [.ref h1, .ref h2, .ref h3, .ref h4, .ref h5, .ref h6, .int a0, .int a1, .int a2, .int a3, .int a4, .int a5, .int a6, .int a7])), (h3, .inl (cI, 9, .inl g2))]) [0, 1] (by decide) rfl
      exact W.zret (v := 0) hx hb hr (rfl) (fun t ht hW => ⟨⟨0, (), rfl, (rg_mono (rg_k (x := 0) (c := 0) (by decide)) (by decide) (by decide)), ⟨by rw [ht]; exact hP9, hD9⟩⟩, hS.F ht⟩) hS.2.2 dX7_keepsLetters_56
    · skip
      have h_13 : rg (0) (0) x_7 := by have ha := hx_7; have hb_ := (rg_k (x := 0) (c := 0) (by decide)); simp only [rg, fa_lt, fa_le, fa_eq, (by decide : (0 : Int32).toInt = 0)] at ha hb_ c_8; simp only [rg]; omega
      refine lv_iconst (v := 1) hx hb dX7_keepsLetters_51 (by decide) ?_
      refine lv_goto (tgt := 56) hx hb dX7_keepsLetters_52 (by decide) ?_
      have hP9 := hP.sub (ws' := [(h0, .inr (7, [.ref h1, .ref h2, .ref h3, .ref h4, .ref h5, .ref h6, .int a0, .int a1, .int a2, .int a3, .int a4, .int a5, .int a6, .int a7])), (h3, .inl (cI, 9, .inl g2))]) [0, 1] rfl
      have hD9 := hD.sub (ws' := [(h0, .inr (7, [.ref h1, .ref h2, .ref h3, .ref h4, .ref h5, .ref h6, .int a0, .int a1, .int a2, .int a3, .int a4, .int a5, .int a6, .int a7])), (h3, .inl (cI, 9, .inl g2))]) [0, 1] (by decide) rfl
      exact W.zret (v := 1) hx hb hr (rfl) (fun t ht hW => ⟨⟨1, (), rfl, (rg_mono (rg_k (x := 1) (c := 1) (by decide)) (by decide) (by decide)), ⟨by rw [ht]; exact hP9, hD9⟩⟩, hS.F ht⟩) hS.2.2 dX7_keepsLetters_56
  · skip
    have h_14 : rg (1) (1) a2 := by have ha := ha2; have hb_ := (rg_k (x := 0) (c := 0) (by decide)); simp only [rg, fa_lt, fa_le, fa_eq, (by decide : (0 : Int32).toInt = 0)] at ha hb_ c_2; simp only [rg]; omega
    refine lv_iload_n hx hb dX7_keepsLetters_12 rfl (lv_at hl 2 rfl) ?_
    refine lv_iconst (v := 1) hx hb dX7_keepsLetters_13 (by decide) ?_
    refine lv_iload_n hx hb dX7_keepsLetters_14 rfl (lv_at hl 4 rfl) ?_
    refine lv_ishl hx hb dX7_keepsLetters_15 ?_
    refine lv_topi (fun x_15 ex_15 => ?_)
    have hx_15 : rg (1) (256) x_15 := by rw [ex_15]; exact rg_mono (rg_shl1 8 (rg_mono hp2 (by decide) (by decide)) (by decide)) (by decide) (by decide)
    refine lv_ior hx hb dX7_keepsLetters_16 ?_
    refine lv_topi (fun x_16 ex_16 => ?_)
    have hx_16 : rg (0) (511) x_16 := by rw [ex_16]; exact rg_mono (rg_or 9 (rg_mono hp0 (by decide) (by decide)) (rg_mono hx_15 (by decide) (by decide)) (by decide)) (by decide) (by decide)
    refine lv_aload_n hx hb dX7_keepsLetters_17 rfl (lv_at hl 1 rfl) ?_
    refine va_get (D := (dC, dI)) (ci := 7) (v := .int a0) (C := RX7) (T := TX7) (N := 14) hx hb hts hinX7 hown hK hP 0 rfl rfl 6 (by decide) (hts (.fieldLink RX7 30 "MayRings$Ways" "houses" "I") (List.mem_of_getElem? (i := 3) rfl)) (fun _ h9 => h9) rfl dX7_keepsLetters_18 ?_
    refine lv_icmp_ne (tgt := 35) hx hb dX7_keepsLetters_21 (by decide) (fun c_17 => ?_) (fun c_17 => ?_)
    · skip
      refine lv_aload_n hx hb dX7_keepsLetters_35 rfl (lv_at hl 1 rfl) ?_
      refine va_get (D := (dC, dI)) (ci := 7) (v := .ref h3) (C := RX7) (T := TX7) (N := 14) hx hb hts hinX7 hown hK hP 0 rfl rfl 2 (by decide) (hts (.fieldLink RX7 18 "MayRings$Ways" "must" "[I") (List.mem_of_getElem? (i := 2) rfl)) (fun _ h9 => h9) rfl dX7_keepsLetters_36 ?_
      refine lv_iload_n hx hb dX7_keepsLetters_39 rfl (lv_at hl 4 rfl) ?_
      refine va_iald hx hb hK hP 1 1 rfl rfl (rg_in (n := 9) (rg_mono hp2 (by decide) (by decide))) dX7_keepsLetters_40 ?_
      refine lv_topi (fun x_18 ex_18 => ?_)
      have hx_18 : rg (0) (511) x_18 := by rw [ex_18]; exact rg_mono (hg2 _) (by decide) (by decide)
      refine lv_iload_n hx hb dX7_keepsLetters_41 rfl (lv_at hl 2 rfl) ?_
      refine lv_iand hx hb dX7_keepsLetters_42 ?_
      refine lv_topi (fun x_19 ex_19 => ?_)
      have hx_19 : rg (0) (511) x_19 := by rw [ex_19]; exact rg_mono (rg_andl (b := 511) (rg_mono hx_18 (by decide) (by decide))) (by decide) (by decide)
      have kx_19_0 : rg 1 2147483647 x_19 → rg 1 (511) x_18 := fun hq => rg_andP hx_18 (ex_19 ▸ hq)
      have kx_19_1 : rg 1 2147483647 x_19 → rg 1 (511) p0 := fun hq => rg_andP' hp0 (ex_19 ▸ hq)
      refine lv_iload hx hb dX7_keepsLetters_43 (lv_at hl 0 rfl) ?_
      refine lv_iconst (v := (-1)) hx hb dX7_keepsLetters_45 (by decide) ?_
      refine lv_ixor hx hb dX7_keepsLetters_46 ?_
      refine lv_topi (fun x_20 ex_20 => ?_)
      refine lv_iand hx hb dX7_keepsLetters_47 ?_
      refine lv_topi (fun x_21 ex_21 => ?_)
      have hx_21 : rg (0) (511) x_21 := by rw [ex_21]; exact rg_mono (rg_andl (b := 511) (rg_mono hx_19 (by decide) (by decide))) (by decide) (by decide)
      have kx_21_0 : rg 1 2147483647 x_21 → rg 1 (511) x_19 := fun hq => rg_andP hx_19 (ex_21 ▸ hq)
      refine lv_if_ne (tgt := 55) hx hb dX7_keepsLetters_48 (by decide) (fun c_22 => ?_) (fun c_22 => ?_)
      · skip
        have h_23 : rg (1) (511) x_21 := by have ha := hx_21; have hb_ := (rg_k (x := 0) (c := 0) (by decide)); simp only [rg, fa_lt, fa_le, fa_eq, (by decide : (0 : Int32).toInt = 0)] at ha hb_ c_22; simp only [rg]; omega
        have h_24 : rg (1) (511) x_19 := rg_meet hx_19 (kx_21_0 (rg_mono h_23 (by decide) (by decide))) (by decide) (by decide)
        have h_25 : rg (1) (511) x_18 := rg_meet hx_18 (kx_19_0 (rg_mono h_24 (by decide) (by decide))) (by decide) (by decide)
        have h_26 : rg (1) (511) p0 := rg_meet hp0 (kx_19_1 (rg_mono h_24 (by decide) (by decide))) (by decide) (by decide)
        refine lv_iconst (v := 0) hx hb dX7_keepsLetters_55 (by decide) ?_
        have hP9 := hP.sub (ws' := [(h0, .inr (7, [.ref h1, .ref h2, .ref h3, .ref h4, .ref h5, .ref h6, .int a0, .int a1, .int a2, .int a3, .int a4, .int a5, .int a6, .int a7])), (h3, .inl (cI, 9, .inl g2))]) [0, 1] rfl
        have hD9 := hD.sub (ws' := [(h0, .inr (7, [.ref h1, .ref h2, .ref h3, .ref h4, .ref h5, .ref h6, .int a0, .int a1, .int a2, .int a3, .int a4, .int a5, .int a6, .int a7])), (h3, .inl (cI, 9, .inl g2))]) [0, 1] (by decide) rfl
        exact W.zret (v := 0) hx hb hr (rfl) (fun t ht hW => ⟨⟨0, (), rfl, (rg_mono (rg_k (x := 0) (c := 0) (by decide)) (by decide) (by decide)), ⟨by rw [ht]; exact hP9, hD9⟩⟩, hS.F ht⟩) hS.2.2 dX7_keepsLetters_56
      · skip
        have h_27 : rg (0) (0) x_21 := by have ha := hx_21; have hb_ := (rg_k (x := 0) (c := 0) (by decide)); simp only [rg, fa_lt, fa_le, fa_eq, (by decide : (0 : Int32).toInt = 0)] at ha hb_ c_22; simp only [rg]; omega
        refine lv_iconst (v := 1) hx hb dX7_keepsLetters_51 (by decide) ?_
        refine lv_goto (tgt := 56) hx hb dX7_keepsLetters_52 (by decide) ?_
        have hP9 := hP.sub (ws' := [(h0, .inr (7, [.ref h1, .ref h2, .ref h3, .ref h4, .ref h5, .ref h6, .int a0, .int a1, .int a2, .int a3, .int a4, .int a5, .int a6, .int a7])), (h3, .inl (cI, 9, .inl g2))]) [0, 1] rfl
        have hD9 := hD.sub (ws' := [(h0, .inr (7, [.ref h1, .ref h2, .ref h3, .ref h4, .ref h5, .ref h6, .int a0, .int a1, .int a2, .int a3, .int a4, .int a5, .int a6, .int a7])), (h3, .inl (cI, 9, .inl g2))]) [0, 1] (by decide) rfl
        exact W.zret (v := 1) hx hb hr (rfl) (fun t ht hW => ⟨⟨1, (), rfl, (rg_mono (rg_k (x := 1) (c := 1) (by decide)) (by decide) (by decide)), ⟨by rw [ht]; exact hP9, hD9⟩⟩, hS.F ht⟩) hS.2.2 dX7_keepsLetters_56
    · skip
      refine lv_iload hx hb dX7_keepsLetters_24 (lv_at hl 0 rfl) ?_
      refine lv_iconst (v := 1) hx hb dX7_keepsLetters_26 (by decide) ?_
      refine lv_aload_n hx hb dX7_keepsLetters_27 rfl (lv_at hl 1 rfl) ?_
      refine va_get (D := (dC, dI)) (ci := 7) (v := .int a7) (C := RX7) (T := TX7) (N := 14) hx hb hts hinX7 hown hK hP 0 rfl rfl 13 (by decide) (hts (.fieldLink RX7 53 "MayRings$Ways" "start" "I") (List.mem_of_getElem? (i := 4) rfl)) (fun _ h9 => h9) rfl dX7_keepsLetters_28 ?_
      refine lv_ishl hx hb dX7_keepsLetters_31 ?_
      refine lv_topi (fun x_28 ex_28 => ?_)
      have hx_28 : rg (1) (256) x_28 := by rw [ex_28]; exact rg_mono (rg_shl1 8 (rg_mono ha7 (by decide) (by decide)) (by decide)) (by decide) (by decide)
      refine lv_ior hx hb dX7_keepsLetters_32 ?_
      refine lv_topi (fun x_29 ex_29 => ?_)
      have hx_29 : rg (0) (511) x_29 := by rw [ex_29]; exact rg_mono (rg_or 9 (rg_mono hx_1 (by decide) (by decide)) (rg_mono hx_28 (by decide) (by decide)) (by decide)) (by decide) (by decide)
      refine lv_istore (lv' := [(4, .int x_29), (0, .ref h0), (1, .int p0), (2, .int p1), (3, .int p2)]) hx hb dX7_keepsLetters_33 hl (by decide) rfl (fun ls hl => ?_)
      refine lv_aload_n hx hb dX7_keepsLetters_35 rfl (lv_at hl 1 rfl) ?_
      refine va_get (D := (dC, dI)) (ci := 7) (v := .ref h3) (C := RX7) (T := TX7) (N := 14) hx hb hts hinX7 hown hK hP 0 rfl rfl 2 (by decide) (hts (.fieldLink RX7 18 "MayRings$Ways" "must" "[I") (List.mem_of_getElem? (i := 2) rfl)) (fun _ h9 => h9) rfl dX7_keepsLetters_36 ?_
      refine lv_iload_n hx hb dX7_keepsLetters_39 rfl (lv_at hl 4 rfl) ?_
      refine va_iald hx hb hK hP 1 1 rfl rfl (rg_in (n := 9) (rg_mono hp2 (by decide) (by decide))) dX7_keepsLetters_40 ?_
      refine lv_topi (fun x_30 ex_30 => ?_)
      have hx_30 : rg (0) (511) x_30 := by rw [ex_30]; exact rg_mono (hg2 _) (by decide) (by decide)
      refine lv_iload_n hx hb dX7_keepsLetters_41 rfl (lv_at hl 2 rfl) ?_
      refine lv_iand hx hb dX7_keepsLetters_42 ?_
      refine lv_topi (fun x_31 ex_31 => ?_)
      have hx_31 : rg (0) (511) x_31 := by rw [ex_31]; exact rg_mono (rg_andl (b := 511) (rg_mono hx_30 (by decide) (by decide))) (by decide) (by decide)
      have kx_31_0 : rg 1 2147483647 x_31 → rg 1 (511) x_30 := fun hq => rg_andP hx_30 (ex_31 ▸ hq)
      have kx_31_1 : rg 1 2147483647 x_31 → rg 1 (511) p0 := fun hq => rg_andP' hp0 (ex_31 ▸ hq)
      refine lv_iload hx hb dX7_keepsLetters_43 (lv_at hl 0 rfl) ?_
      refine lv_iconst (v := (-1)) hx hb dX7_keepsLetters_45 (by decide) ?_
      refine lv_ixor hx hb dX7_keepsLetters_46 ?_
      refine lv_topi (fun x_32 ex_32 => ?_)
      refine lv_iand hx hb dX7_keepsLetters_47 ?_
      refine lv_topi (fun x_33 ex_33 => ?_)
      have hx_33 : rg (0) (511) x_33 := by rw [ex_33]; exact rg_mono (rg_andl (b := 511) (rg_mono hx_31 (by decide) (by decide))) (by decide) (by decide)
      have kx_33_0 : rg 1 2147483647 x_33 → rg 1 (511) x_31 := fun hq => rg_andP hx_31 (ex_33 ▸ hq)
      refine lv_if_ne (tgt := 55) hx hb dX7_keepsLetters_48 (by decide) (fun c_34 => ?_) (fun c_34 => ?_)
      · skip
        have h_35 : rg (1) (511) x_33 := by have ha := hx_33; have hb_ := (rg_k (x := 0) (c := 0) (by decide)); simp only [rg, fa_lt, fa_le, fa_eq, (by decide : (0 : Int32).toInt = 0)] at ha hb_ c_34; simp only [rg]; omega
        have h_36 : rg (1) (511) x_31 := rg_meet hx_31 (kx_33_0 (rg_mono h_35 (by decide) (by decide))) (by decide) (by decide)
        have h_37 : rg (1) (511) x_30 := rg_meet hx_30 (kx_31_0 (rg_mono h_36 (by decide) (by decide))) (by decide) (by decide)
        have h_38 : rg (1) (511) p0 := rg_meet hp0 (kx_31_1 (rg_mono h_36 (by decide) (by decide))) (by decide) (by decide)
        refine lv_iconst (v := 0) hx hb dX7_keepsLetters_55 (by decide) ?_
        have hP9 := hP.sub (ws' := [(h0, .inr (7, [.ref h1, .ref h2, .ref h3, .ref h4, .ref h5, .ref h6, .int a0, .int a1, .int a2, .int a3, .int a4, .int a5, .int a6, .int a7])), (h3, .inl (cI, 9, .inl g2))]) [0, 1] rfl
        have hD9 := hD.sub (ws' := [(h0, .inr (7, [.ref h1, .ref h2, .ref h3, .ref h4, .ref h5, .ref h6, .int a0, .int a1, .int a2, .int a3, .int a4, .int a5, .int a6, .int a7])), (h3, .inl (cI, 9, .inl g2))]) [0, 1] (by decide) rfl
        exact W.zret (v := 0) hx hb hr (rfl) (fun t ht hW => ⟨⟨0, (), rfl, (rg_mono (rg_k (x := 0) (c := 0) (by decide)) (by decide) (by decide)), ⟨by rw [ht]; exact hP9, hD9⟩⟩, hS.F ht⟩) hS.2.2 dX7_keepsLetters_56
      · skip
        have h_39 : rg (0) (0) x_33 := by have ha := hx_33; have hb_ := (rg_k (x := 0) (c := 0) (by decide)); simp only [rg, fa_lt, fa_le, fa_eq, (by decide : (0 : Int32).toInt = 0)] at ha hb_ c_34; simp only [rg]; omega
        refine lv_iconst (v := 1) hx hb dX7_keepsLetters_51 (by decide) ?_
        refine lv_goto (tgt := 56) hx hb dX7_keepsLetters_52 (by decide) ?_
        have hP9 := hP.sub (ws' := [(h0, .inr (7, [.ref h1, .ref h2, .ref h3, .ref h4, .ref h5, .ref h6, .int a0, .int a1, .int a2, .int a3, .int a4, .int a5, .int a6, .int a7])), (h3, .inl (cI, 9, .inl g2))]) [0, 1] rfl
        have hD9 := hD.sub (ws' := [(h0, .inr (7, [.ref h1, .ref h2, .ref h3, .ref h4, .ref h5, .ref h6, .int a0, .int a1, .int a2, .int a3, .int a4, .int a5, .int a6, .int a7])), (h3, .inl (cI, 9, .inl g2))]) [0, 1] (by decide) rfl
        exact W.zret (v := 1) hx hb hr (rfl) (fun t ht hW => ⟨⟨1, (), rfl, (rg_mono (rg_k (x := 1) (c := 1) (by decide)) (by decide) (by decide)), ⟨by rw [ht]; exact hP9, hD9⟩⟩, hS.F ht⟩) hS.2.2 dX7_keepsLetters_56
def v_s_J6_bitCount_0f7a4_b8 : List Cond := Cond.code yJ6_bitCount_0f7a4 cJ6_bitCount_0f7a4 1 (some .int) :: ([Cond.constant RJ6 265 (1431655765), Cond.constant RJ6 266 (858993459), Cond.constant RJ6 267 (252645135)] ++ ([]))
theorem k_s_J6_bitCount_0f7a4_b8 : GoodIn lw_tbl v_s_J6_bitCount_0f7a4_b8 := gd_c (List.mem_of_getElem? (i := 879) (by decide +kernel)) rfl (goodIn_app (gd_c (List.mem_of_getElem? (i := 880) (by decide +kernel)) rfl (gd_c (List.mem_of_getElem? (i := 881) (by decide +kernel)) rfl (gd_c (List.mem_of_getElem? (i := 882) (by decide +kernel)) rfl (gd_nil)))) (gd_nil))
set_option maxHeartbeats 2000000 in
set_option maxRecDepth 100000 in
theorem c_s_J6_bitCount_0f7a4_b8 (l : Launch) (dC : Nat → ClassId) (dI : Nat → Nat → Nat) (cB cI cJ cZ cP : ClassId) (p0 : Int32) (hp0 : rg (0) (510) p0) (sz : Nat) : Met l yJ6_bitCount_0f7a4 v_s_J6_bitCount_0f7a4_b8 ({ frames := 0, cells := 0, slots := 0, locals := 0 }) (va_Pc [.int p0] (fun U => U.heap.size = sz ∧ va_P (dC, dI) vwCl [] U.heap ∧ va_K (dC, dI) vwCl (ty5 cB cI cJ cZ cP) U ∧ va_D (fun _ => True) [])) (va_Qi (fun (r : Int32) (u9 : Int32) => u9 = r ∧ rg (0) (8) r) (fun u9 t => (u9 = bcE p0) ∧ va_P (dC, dI) vwCl [] t.heap ∧ va_D (va_A [] sz) []) (va_A [] sz)) 0 0 (va_A [] sz) := by
  refine Met.ofW (cc := cJ6_bitCount_0f7a4) (maxL := 1) (ret := (some .int)) (by decide) rfl ?_
  intro p e s m args below meth c s₁ B hml hv
  obtain ⟨rfl, hsz, hP, hK, hD0⟩ := hv
  have hx := B.exec
  have hb := B.bytes
  have hr := B.returns
  have hts := atoms_spec (ws := v_s_J6_bitCount_0f7a4_b8) B.pre
  have hown : s.vm.findClass RJ6 = some m.cls := findClass_of_methodNamed B.named
  have hlocks := B.notSynchronized
  subst hsz
  have hD := hD0.self (sz := s.heap.size)
  generalize hAe : va_A [] s.heap.size = A at hD ⊢
  have hA : ∀ q : Nat, s.heap.size ≤ q → A q := fun q h => by rw [← hAe]; exact Or.inr h
  have hP : va_P (dC, dI) vwCl [] s.heap := hP
  have hl := lv_entry ([.int p0]) (n := 1) (Nat.le_of_ble_eq_true rfl)
  rw [lg_entry_eq]
  generalize (lg_sl ([.int p0]) ++ List.replicate (1 - (lg_sl ([.int p0])).length) Slot.unset).toArray = ls at hl ⊢
  have hl : lv_has ls 1 [(0, .int p0)] := hl
  refine W_gen (A := A) hP (fun H locs hP hS => ?_)
  refine lv_iload_n hx hb dJ6_bitCount_0f7a4_0 rfl (lv_at hl 0 rfl) ?_
  refine lv_iload_n hx hb dJ6_bitCount_0f7a4_1 rfl (lv_at hl 0 rfl) ?_
  refine lv_iconst (v := 1) hx hb dJ6_bitCount_0f7a4_2 (by decide) ?_
  refine lv_iushr hx hb dJ6_bitCount_0f7a4_3 rfl ?_
  refine lv_topi (fun x_1 ex_1 => ?_)
  have hx_1 : rg (0) (2147483647) x_1 := by rw [ex_1]; exact rg_mono (rg_ushr 1 (by decide) (by decide)) (by decide) (by decide)
  refine lv_ldcw (v := 1431655765) hx hb hown (hts (.constant RJ6 265 (1431655765)) (List.mem_of_getElem? (i := 1) rfl)) dJ6_bitCount_0f7a4_4 ?_
  refine lv_iand hx hb dJ6_bitCount_0f7a4_7 ?_
  refine lv_topi (fun x_2 ex_2 => ?_)
  have hx_2 : rg (0) (1431655765) x_2 := by rw [ex_2]; exact rg_mono (rg_andr (b := 1431655765) (rg_mono (rg_k (x := 1431655765) (c := 1431655765) (by decide)) (by decide) (by decide))) (by decide) (by decide)
  have kx_2_0 : rg 1 2147483647 x_2 → rg 1 (2147483647) x_1 := fun hq => rg_andP hx_1 (ex_2 ▸ hq)
  refine lv_isub hx hb dJ6_bitCount_0f7a4_8 ?_
  refine lv_topi (fun x_3 ex_3 => ?_)
  have hx_3 : rg (-1431655765) (510) x_3 := by rw [ex_3]; exact rg_mono (rg_sub hp0 hx_2 (by decide) (by decide)) (by decide) (by decide)
  have qx_3 : x_3.toInt = p0.toInt - x_2.toInt := by rw [ex_3]; exact rg_subQ hp0 hx_2 (by decide) (by decide)
  refine lv_istore_n (lv' := [(0, .int x_3)]) hx hb dJ6_bitCount_0f7a4_9 rfl hl (by decide) rfl (fun ls hl => ?_)
  refine lv_iload_n hx hb dJ6_bitCount_0f7a4_10 rfl (lv_at hl 0 rfl) ?_
  refine lv_ldcw (v := 858993459) hx hb hown (hts (.constant RJ6 266 (858993459)) (List.mem_of_getElem? (i := 2) rfl)) dJ6_bitCount_0f7a4_11 ?_
  refine lv_iand hx hb dJ6_bitCount_0f7a4_14 ?_
  refine lv_topi (fun x_4 ex_4 => ?_)
  have hx_4 : rg (0) (858993459) x_4 := by rw [ex_4]; exact rg_mono (rg_andr (b := 858993459) (rg_mono (rg_k (x := 858993459) (c := 858993459) (by decide)) (by decide) (by decide))) (by decide) (by decide)
  refine lv_iload_n hx hb dJ6_bitCount_0f7a4_15 rfl (lv_at hl 0 rfl) ?_
  refine lv_iconst (v := 2) hx hb dJ6_bitCount_0f7a4_16 (by decide) ?_
  refine lv_iushr hx hb dJ6_bitCount_0f7a4_17 rfl ?_
  refine lv_topi (fun x_5 ex_5 => ?_)
  have hx_5 : rg (0) (1073741823) x_5 := by rw [ex_5]; exact rg_mono (rg_ushr 2 (by decide) (by decide)) (by decide) (by decide)
  refine lv_ldcw (v := 858993459) hx hb hown (hts (.constant RJ6 266 (858993459)) (List.mem_of_getElem? (i := 2) rfl)) dJ6_bitCount_0f7a4_18 ?_
  refine lv_iand hx hb dJ6_bitCount_0f7a4_21 ?_
  refine lv_topi (fun x_6 ex_6 => ?_)
  have hx_6 : rg (0) (858993459) x_6 := by rw [ex_6]; exact rg_mono (rg_andr (b := 858993459) (rg_mono (rg_k (x := 858993459) (c := 858993459) (by decide)) (by decide) (by decide))) (by decide) (by decide)
  have kx_6_0 : rg 1 2147483647 x_6 → rg 1 (1073741823) x_5 := fun hq => rg_andP hx_5 (ex_6 ▸ hq)
  refine lv_iadd hx hb dJ6_bitCount_0f7a4_22 ?_
  refine lv_topi (fun x_7 ex_7 => ?_)
  have hx_7 : rg (0) (1717986918) x_7 := by rw [ex_7]; exact rg_mono (rg_add hx_4 hx_6 (by decide) (by decide)) (by decide) (by decide)
  have qx_7 : x_7.toInt = x_4.toInt + x_6.toInt := by rw [ex_7]; exact rg_addQ hx_4 hx_6 (by decide) (by decide)
  refine lv_istore_n (lv' := [(0, .int x_7)]) hx hb dJ6_bitCount_0f7a4_23 rfl hl (by decide) rfl (fun ls hl => ?_)
  refine lv_iload_n hx hb dJ6_bitCount_0f7a4_24 rfl (lv_at hl 0 rfl) ?_
  refine lv_iload_n hx hb dJ6_bitCount_0f7a4_25 rfl (lv_at hl 0 rfl) ?_
  refine lv_iconst (v := 4) hx hb dJ6_bitCount_0f7a4_26 (by decide) ?_
  refine lv_iushr hx hb dJ6_bitCount_0f7a4_27 rfl ?_
  refine lv_topi (fun x_8 ex_8 => ?_)
  have hx_8 : rg (0) (268435455) x_8 := by rw [ex_8]; exact rg_mono (rg_ushr 4 (by decide) (by decide)) (by decide) (by decide)
  refine lv_iadd hx hb dJ6_bitCount_0f7a4_28 ?_
  refine lv_topi (fun x_9 ex_9 => ?_)
  have hx_9 : rg (0) (1986422373) x_9 := by rw [ex_9]; exact rg_mono (rg_add hx_7 hx_8 (by decide) (by decide)) (by decide) (by decide)
  have qx_9 : x_9.toInt = x_7.toInt + x_8.toInt := by rw [ex_9]; exact rg_addQ hx_7 hx_8 (by decide) (by decide)
  refine lv_ldcw (v := 252645135) hx hb hown (hts (.constant RJ6 267 (252645135)) (List.mem_of_getElem? (i := 3) rfl)) dJ6_bitCount_0f7a4_29 ?_
  refine lv_iand hx hb dJ6_bitCount_0f7a4_32 ?_
  refine lv_topi (fun x_10 ex_10 => ?_)
  have hx_10 : rg (0) (252645135) x_10 := by rw [ex_10]; exact rg_mono (rg_andr (b := 252645135) (rg_mono (rg_k (x := 252645135) (c := 252645135) (by decide)) (by decide) (by decide))) (by decide) (by decide)
  have kx_10_0 : rg 1 2147483647 x_10 → rg 1 (1986422373) x_9 := fun hq => rg_andP hx_9 (ex_10 ▸ hq)
  refine lv_istore_n (lv' := [(0, .int x_10)]) hx hb dJ6_bitCount_0f7a4_33 rfl hl (by decide) rfl (fun ls hl => ?_)
  refine lv_iload_n hx hb dJ6_bitCount_0f7a4_34 rfl (lv_at hl 0 rfl) ?_
  refine lv_iload_n hx hb dJ6_bitCount_0f7a4_35 rfl (lv_at hl 0 rfl) ?_
  refine lv_bipush (v := 8) hx hb dJ6_bitCount_0f7a4_36 (by decide) ?_
  refine lv_iushr hx hb dJ6_bitCount_0f7a4_38 rfl ?_
  refine lv_topi (fun x_11 ex_11 => ?_)
  have hx_11 : rg (0) (16777215) x_11 := by rw [ex_11]; exact rg_mono (rg_ushr 8 (by decide) (by decide)) (by decide) (by decide)
  refine lv_iadd hx hb dJ6_bitCount_0f7a4_39 ?_
  refine lv_topi (fun x_12 ex_12 => ?_)
  have hx_12 : rg (0) (269422350) x_12 := by rw [ex_12]; exact rg_mono (rg_add hx_10 hx_11 (by decide) (by decide)) (by decide) (by decide)
  have qx_12 : x_12.toInt = x_10.toInt + x_11.toInt := by rw [ex_12]; exact rg_addQ hx_10 hx_11 (by decide) (by decide)
  refine lv_istore_n (lv' := [(0, .int x_12)]) hx hb dJ6_bitCount_0f7a4_40 rfl hl (by decide) rfl (fun ls hl => ?_)
  refine lv_iload_n hx hb dJ6_bitCount_0f7a4_41 rfl (lv_at hl 0 rfl) ?_
  refine lv_iload_n hx hb dJ6_bitCount_0f7a4_42 rfl (lv_at hl 0 rfl) ?_
  refine lv_bipush (v := 16) hx hb dJ6_bitCount_0f7a4_43 (by decide) ?_
  refine lv_iushr hx hb dJ6_bitCount_0f7a4_45 rfl ?_
  refine lv_topi (fun x_13 ex_13 => ?_)
  have hx_13 : rg (0) (65535) x_13 := by rw [ex_13]; exact rg_mono (rg_ushr 16 (by decide) (by decide)) (by decide) (by decide)
  refine lv_iadd hx hb dJ6_bitCount_0f7a4_46 ?_
  refine lv_topi (fun x_14 ex_14 => ?_)
  have hx_14 : rg (0) (269487885) x_14 := by rw [ex_14]; exact rg_mono (rg_add hx_12 hx_13 (by decide) (by decide)) (by decide) (by decide)
  have qx_14 : x_14.toInt = x_12.toInt + x_13.toInt := by rw [ex_14]; exact rg_addQ hx_12 hx_13 (by decide) (by decide)
  refine lv_istore_n (lv' := [(0, .int x_14)]) hx hb dJ6_bitCount_0f7a4_47 rfl hl (by decide) rfl (fun ls hl => ?_)
  refine lv_iload_n hx hb dJ6_bitCount_0f7a4_48 rfl (lv_at hl 0 rfl) ?_
  refine lv_bipush (v := 63) hx hb dJ6_bitCount_0f7a4_49 (by decide) ?_
  refine lv_iand hx hb dJ6_bitCount_0f7a4_51 ?_
  refine lv_topi (fun x_15 ex_15 => ?_)
  have hx_15 : rg (0) (63) x_15 := by rw [ex_15]; exact rg_mono (rg_andr (b := 63) (rg_mono (rg_k (x := 63) (c := 63) (by decide)) (by decide) (by decide))) (by decide) (by decide)
  have kx_15_0 : rg 1 2147483647 x_15 → rg 1 (269487885) x_14 := fun hq => rg_andP hx_14 (ex_15 ▸ hq)
  have h_16 : x_15 = bcE p0 := by subst x_1 x_2 x_3 x_4 x_5 x_6 x_7 x_8 x_9 x_10 x_11 x_12 x_13 x_14 x_15; rfl
  have gh_16 := bc_8 hp0
  rw [← h_16] at gh_16
  have hP9 := hP.sub (ws' := []) [] rfl
  have hD9 := hD.sub (ws' := []) [] (by decide) rfl
  exact W.iret (v := x_15) hx hb hr (fun t ht hW => ⟨⟨x_15, x_15, rfl, ⟨rfl, (rg_mono gh_16 (by decide) (by decide))⟩, ⟨h_16, by rw [ht]; exact hP9, hD9⟩⟩, hS.F ht⟩) hS.2.2 dJ6_bitCount_0f7a4_52
def v_s_X7_seen : List Cond := Cond.code yX7_seen cX7_seen 3 (some .int) :: ([Cond.fieldLink RX7 50 "MayRings$Ways" "watched" "I"] ++ (wsX70 ++ ([])))
theorem k_s_X7_seen : GoodIn lw_tbl v_s_X7_seen := gd_c (List.mem_of_getElem? (i := 953) (by decide +kernel)) rfl (goodIn_app (gd_c (List.mem_of_getElem? (i := 463) (by decide +kernel)) rfl (gd_nil)) (goodIn_app kfX7 (gd_nil)))
set_option maxHeartbeats 2000000 in
set_option maxRecDepth 100000 in
theorem c_s_X7_seen (l : Launch) (dC : Nat → ClassId) (dI : Nat → Nat → Nat) (cB cI cJ cZ cP : ClassId) (h0 : Nat) (h1 : Nat) (h2 : Nat) (h3 : Nat) (h4 : Nat) (h5 : Nat) (h6 : Nat) (a0 : Int32) (a1 : Int32) (a2 : Int32) (a3 : Int32) (a4 : Int32) (a5 : Int32) (a6 : Int32) (a7 : Int32) (p0 : Int32) (hp0 : rg (0) (8) p0) (p1 : Int32) (hp1 : rg (0) (8) p1) (sz : Nat) : Met l yX7_seen v_s_X7_seen ({ frames := 0, cells := 0, slots := 0, locals := 0 }) (va_Pc [.ref h0, .int p0, .int p1] (fun U => U.heap.size = sz ∧ va_P (dC, dI) vwCl [(h0, .inr (7, [.ref h1, .ref h2, .ref h3, .ref h4, .ref h5, .ref h6, .int a0, .int a1, .int a2, .int a3, .int a4, .int a5, .int a6, .int a7]))] U.heap ∧ va_K (dC, dI) vwCl (ty5 cB cI cJ cZ cP) U ∧ va_D (fun _ => True) [(h0, .inr (7, [.ref h1, .ref h2, .ref h3, .ref h4, .ref h5, .ref h6, .int a0, .int a1, .int a2, .int a3, .int a4, .int a5, .int a6, .int a7]))])) (va_Qi (fun (r : Int32) (u9 : Unit) => rg (0) (256) r) (fun u9 t => va_P (dC, dI) vwCl [(h0, .inr (7, [.ref h1, .ref h2, .ref h3, .ref h4, .ref h5, .ref h6, .int a0, .int a1, .int a2, .int a3, .int a4, .int a5, .int a6, .int a7]))] t.heap ∧ va_D (va_A [(h0, .inr (7, [.ref h1, .ref h2, .ref h3, .ref h4, .ref h5, .ref h6, .int a0, .int a1, .int a2, .int a3, .int a4, .int a5, .int a6, .int a7]))] sz) [(h0, .inr (7, [.ref h1, .ref h2, .ref h3, .ref h4, .ref h5, .ref h6, .int a0, .int a1, .int a2, .int a3, .int a4, .int a5, .int a6, .int a7]))]) (va_A [(h0, .inr (7, [.ref h1, .ref h2, .ref h3, .ref h4, .ref h5, .ref h6, .int a0, .int a1, .int a2, .int a3, .int a4, .int a5, .int a6, .int a7]))] sz)) 0 0 (va_A [(h0, .inr (7, [.ref h1, .ref h2, .ref h3, .ref h4, .ref h5, .ref h6, .int a0, .int a1, .int a2, .int a3, .int a4, .int a5, .int a6, .int a7]))] sz) := by
  refine Met.ofW (cc := cX7_seen) (maxL := 3) (ret := (some .int)) (by decide) rfl ?_
  intro p e s m args below meth c s₁ B hml hv
  obtain ⟨rfl, hsz, hP, hK, hD0⟩ := hv
  have hx := B.exec
  have hb := B.bytes
  have hr := B.returns
  have hts := atoms_spec (ws := v_s_X7_seen) B.pre
  have hown : s.vm.findClass RX7 = some m.cls := findClass_of_methodNamed B.named
  have hlocks := B.notSynchronized
  have hinX7 : ∀ w ∈ wsX70, w ∈ v_s_X7_seen := fun _ h => List.mem_cons_of_mem _ (List.mem_append_right _ (List.mem_append_left _ h))
  subst hsz
  have hD := hD0.self (sz := s.heap.size)
  generalize hAe : va_A [(h0, .inr (7, [.ref h1, .ref h2, .ref h3, .ref h4, .ref h5, .ref h6, .int a0, .int a1, .int a2, .int a3, .int a4, .int a5, .int a6, .int a7]))] s.heap.size = A at hD ⊢
  have hA : ∀ q : Nat, s.heap.size ≤ q → A q := fun q h => by rw [← hAe]; exact Or.inr h
  have hP : va_P (dC, dI) vwCl [(h0, .inr (7, [.ref h1, .ref h2, .ref h3, .ref h4, .ref h5, .ref h6, .int a0, .int a1, .int a2, .int a3, .int a4, .int a5, .int a6, .int a7]))] s.heap := hP
  have hl := lv_entry ([.ref h0, .int p0, .int p1]) (n := 3) (Nat.le_of_ble_eq_true rfl)
  rw [lg_entry_eq]
  generalize (lg_sl ([.ref h0, .int p0, .int p1]) ++ List.replicate (3 - (lg_sl ([.ref h0, .int p0, .int p1])).length) Slot.unset).toArray = ls at hl ⊢
  have hl : lv_has ls 3 [(0, .ref h0), (1, .int p0), (2, .int p1)] := hl
  refine W_gen (A := A) hP (fun H locs hP hS => ?_)
  refine lv_iload_n hx hb dX7_seen_0 rfl (lv_at hl 1 rfl) ?_
  refine lv_aload_n hx hb dX7_seen_1 rfl (lv_at hl 0 rfl) ?_
  refine va_get (D := (dC, dI)) (ci := 7) (v := .int a6) (C := RX7) (T := TX7) (N := 14) hx hb hts hinX7 hown hK hP 0 rfl rfl 12 (by decide) (hts (.fieldLink RX7 50 "MayRings$Ways" "watched" "I") (List.mem_of_getElem? (i := 1) rfl)) (fun _ h9 => h9) rfl dX7_seen_2 ?_
  refine lv_icmp_ne (tgt := 12) hx hb dX7_seen_5 (by decide) (fun c_1 => ?_) (fun c_1 => ?_)
  · skip
    refine lv_iload_n hx hb dX7_seen_12 rfl (lv_at hl 2 rfl) ?_
    refine lv_aload_n hx hb dX7_seen_13 rfl (lv_at hl 0 rfl) ?_
    refine va_get (D := (dC, dI)) (ci := 7) (v := .int a6) (C := RX7) (T := TX7) (N := 14) hx hb hts hinX7 hown hK hP 0 rfl rfl 12 (by decide) (hts (.fieldLink RX7 50 "MayRings$Ways" "watched" "I") (List.mem_of_getElem? (i := 1) rfl)) (fun _ h9 => h9) rfl dX7_seen_14 ?_
    refine lv_icmp_ne (tgt := 26) hx hb dX7_seen_17 (by decide) (fun c_2 => ?_) (fun c_2 => ?_)
    · skip
      refine lv_iconst (v := 0) hx hb dX7_seen_26 (by decide) ?_
      have hP9 := hP.sub (ws' := [(h0, .inr (7, [.ref h1, .ref h2, .ref h3, .ref h4, .ref h5, .ref h6, .int a0, .int a1, .int a2, .int a3, .int a4, .int a5, .int a6, .int a7]))]) [0] rfl
      have hD9 := hD.sub (ws' := [(h0, .inr (7, [.ref h1, .ref h2, .ref h3, .ref h4, .ref h5, .ref h6, .int a0, .int a1, .int a2, .int a3, .int a4, .int a5, .int a6, .int a7]))]) [0] (by decide) rfl
      exact W.iret (v := 0) hx hb hr (fun t ht hW => ⟨⟨0, (), rfl, (rg_mono (rg_k (x := 0) (c := 0) (by decide)) (by decide) (by decide)), ⟨by rw [ht]; exact hP9, hD9⟩⟩, hS.F ht⟩) hS.2.2 dX7_seen_27
    · skip
      refine lv_iconst (v := 1) hx hb dX7_seen_20 (by decide) ?_
      refine lv_iload_n hx hb dX7_seen_21 rfl (lv_at hl 1 rfl) ?_
      refine lv_ishl hx hb dX7_seen_22 ?_
      refine lv_topi (fun x_3 ex_3 => ?_)
      have hx_3 : rg (1) (256) x_3 := by rw [ex_3]; exact rg_mono (rg_shl1 8 (rg_mono hp0 (by decide) (by decide)) (by decide)) (by decide) (by decide)
      refine lv_goto (tgt := 27) hx hb dX7_seen_23 (by decide) ?_
      have hP9 := hP.sub (ws' := [(h0, .inr (7, [.ref h1, .ref h2, .ref h3, .ref h4, .ref h5, .ref h6, .int a0, .int a1, .int a2, .int a3, .int a4, .int a5, .int a6, .int a7]))]) [0] rfl
      have hD9 := hD.sub (ws' := [(h0, .inr (7, [.ref h1, .ref h2, .ref h3, .ref h4, .ref h5, .ref h6, .int a0, .int a1, .int a2, .int a3, .int a4, .int a5, .int a6, .int a7]))]) [0] (by decide) rfl
      exact W.iret (v := x_3) hx hb hr (fun t ht hW => ⟨⟨x_3, (), rfl, (rg_mono hx_3 (by decide) (by decide)), ⟨by rw [ht]; exact hP9, hD9⟩⟩, hS.F ht⟩) hS.2.2 dX7_seen_27
  · skip
    refine lv_iconst (v := 1) hx hb dX7_seen_8 (by decide) ?_
    refine lv_iload_n hx hb dX7_seen_9 rfl (lv_at hl 2 rfl) ?_
    refine lv_ishl hx hb dX7_seen_10 ?_
    refine lv_topi (fun x_4 ex_4 => ?_)
    have hx_4 : rg (1) (256) x_4 := by rw [ex_4]; exact rg_mono (rg_shl1 8 (rg_mono hp1 (by decide) (by decide)) (by decide)) (by decide) (by decide)
    have hP9 := hP.sub (ws' := [(h0, .inr (7, [.ref h1, .ref h2, .ref h3, .ref h4, .ref h5, .ref h6, .int a0, .int a1, .int a2, .int a3, .int a4, .int a5, .int a6, .int a7]))]) [0] rfl
    have hD9 := hD.sub (ws' := [(h0, .inr (7, [.ref h1, .ref h2, .ref h3, .ref h4, .ref h5, .ref h6, .int a0, .int a1, .int a2, .int a3, .int a4, .int a5, .int a6, .int a7]))]) [0] (by decide) rfl
    exact W.iret (v := x_4) hx hb hr (fun t ht hW => ⟨⟨x_4, (), rfl, (rg_mono hx_4 (by decide) (by decide)), ⟨by rw [ht]; exact hP9, hD9⟩⟩, hS.F ht⟩) hS.2.2 dX7_seen_11
