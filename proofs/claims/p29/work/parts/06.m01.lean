def v_s_X9_areBeside : List Cond := Cond.code yX9_areBeside cX9_areBeside 5 (some .boolean) :: ([Cond.methodLink RX9 381 yX9_manyIn, Cond.instanceMethod yX9_manyIn, Cond.selects RX9 yX9_manyIn yX9_manyIn, Cond.initialized RX9, Cond.methodLink RX9 384 yX9_isRing, Cond.instanceMethod yX9_isRing, Cond.selects RX9 yX9_isRing yX9_isRing, Cond.fieldLink RX9 89 "MayRingsModel" "row" "[I"] ++ (wsX90 ++ (v_s_X9_manyIn ++ (v_s_X9_isRing ++ ([])))))
theorem k_s_X9_areBeside : GoodIn lw_tbl v_s_X9_areBeside := gd_c (List.mem_of_getElem? (i := 1703) (by decide +kernel)) rfl (goodIn_app (gd_c (List.mem_of_getElem? (i := 1649) (by decide +kernel)) rfl (gd_c (List.mem_of_getElem? (i := 1651) (by decide +kernel)) rfl (gd_c (List.mem_of_getElem? (i := 103) (by decide +kernel)) rfl (gd_c (List.mem_of_getElem? (i := 144) (by decide +kernel)) rfl (gd_c (List.mem_of_getElem? (i := 1660) (by decide +kernel)) rfl (gd_c (List.mem_of_getElem? (i := 1662) (by decide +kernel)) rfl (gd_c (List.mem_of_getElem? (i := 105) (by decide +kernel)) rfl (gd_c (List.mem_of_getElem? (i := 1277) (by decide +kernel)) rfl (gd_nil))))))))) (goodIn_app kfX9 (goodIn_app k_s_X9_manyIn (goodIn_app k_s_X9_isRing (gd_nil)))))
set_option maxHeartbeats 2000000 in
set_option maxRecDepth 100000 in
theorem c_s_X9_areBeside (l : Launch) (dC : Nat → ClassId) (dI : Nat → Nat → Nat) (cB cI cJ cZ cP : ClassId) (h0 : Nat) (h1 : Nat) (h2 : Nat) (a0 : Int32) (a1 : Int32) (a2 : Int32) (a3 : Int32) (a4 : Int32) (a5 : Int32) (a6 : Int32) (a7 : Int32) (y0 : Int64) (h3 : Nat) (g2 : Nat → Int32) (hg2 : rgA (0) (9) g2) (h4 : Nat) (h5 : Nat) (h6 : Nat) (h7 : Nat) (h8 : Nat) (h9 : Nat) (h10 : Nat) (h11 : Nat) (h12 : Nat) (h13 : Nat) (g12 : Nat → Int32) (hg12 : rgA (0) (1) g12) (h14 : Nat) (h15 : Nat) (h16 : Nat) (h17 : Nat) (h18 : Nat) (h19 : Nat) (h20 : Nat) (a8 : Int32) (ha8 : rg (0) (1) a8) (a9 : Int32) (a10 : Int32) (a11 : Int32) (a12 : Int32) (h21 : Nat) (h22 : Nat) (h23 : Nat) (a13 : Int32) (a14 : Int32) (a15 : Int32) (a16 : Int32) (a17 : Int32) (h24 : Nat) (g23 : Nat → Int32) (hg23 : rgA (-1) (9) g23) (h25 : Nat) (h26 : Nat) (h27 : Nat) (a18 : Int32) (a19 : Int32) (a20 : Int32) (a21 : Int32) (a22 : Int32) (a23 : Int32) (a24 : Int32) (h28 : Nat) (h29 : Nat) (h30 : Nat) (a25 : Int32) (h31 : Nat) (h32 : Nat) (h33 : Nat) (h34 : Nat) (h35 : Nat) (h36 : Nat) (h37 : Nat) (a26 : Int32) (a27 : Int32) (h38 : Nat) (h39 : Nat) (h40 : Nat) (h41 : Nat) (h42 : Nat) (h43 : Nat) (p0 : Int32) (p1 : Int32) (kr0 : ow g2 a8 a14) (sz : Nat) : Met l yX9_areBeside v_s_X9_areBeside ({ frames := 3, cells := 0, slots := 0, locals := 62 }) (va_Pc [.ref h0, .int p0, .int p1] (fun U => U.heap.size = sz ∧ va_P (dC, dI) vwCl [(h0, .inr (9, [.ref h1, .ref h2, .int a0, .int a1, .int a2, .int a3, .int a4, .int a5, .int a6, .int a7, .long y0, .ref h3, .ref h4, .ref h5, .ref h6, .ref h7, .ref h8, .ref h9, .ref h10, .ref h11, .ref h12, .ref h13, .ref h14, .ref h15, .ref h16, .ref h17, .ref h18, .ref h19, .ref h20, .int a8, .int a9, .int a10, .int a11, .int a12, .ref h21, .ref h22, .ref h23, .int a13, .int a14, .int a15, .int a16, .int a17, .ref h24, .ref h25, .ref h26, .ref h27, .int a18, .int a19, .int a20, .int a21, .int a22, .int a23, .int a24, .ref h28, .ref h29, .ref h30, .int a25, .ref h31, .ref h32, .ref h33, .ref h34, .ref h35, .ref h36, .ref h37, .int a26, .int a27, .ref h38, .ref h39, .ref h40, .ref h41, .ref h42, .ref h43])), (h3, .inl (cI, 2, .inl g2)), (h13, .inl (cZ, 2, .inl g12)), (h24, .inl (cI, 9, .inl g23))] U.heap ∧ va_K (dC, dI) vwCl (ty5 cB cI cJ cZ cP) U ∧ va_D (fun _ => True) [(h0, .inr (9, [.ref h1, .ref h2, .int a0, .int a1, .int a2, .int a3, .int a4, .int a5, .int a6, .int a7, .long y0, .ref h3, .ref h4, .ref h5, .ref h6, .ref h7, .ref h8, .ref h9, .ref h10, .ref h11, .ref h12, .ref h13, .ref h14, .ref h15, .ref h16, .ref h17, .ref h18, .ref h19, .ref h20, .int a8, .int a9, .int a10, .int a11, .int a12, .ref h21, .ref h22, .ref h23, .int a13, .int a14, .int a15, .int a16, .int a17, .ref h24, .ref h25, .ref h26, .ref h27, .int a18, .int a19, .int a20, .int a21, .int a22, .int a23, .int a24, .ref h28, .ref h29, .ref h30, .int a25, .ref h31, .ref h32, .ref h33, .ref h34, .ref h35, .ref h36, .ref h37, .int a26, .int a27, .ref h38, .ref h39, .ref h40, .ref h41, .ref h42, .ref h43])), (h3, .inl (cI, 2, .inl g2)), (h13, .inl (cZ, 2, .inl g12)), (h24, .inl (cI, 9, .inl g23))])) (va_Qi (fun (r : Int32) (u9 : Unit) => rg (0) (1) r) (fun u9 t => va_P (dC, dI) vwCl [(h0, .inr (9, [.ref h1, .ref h2, .int a0, .int a1, .int a2, .int a3, .int a4, .int a5, .int a6, .int a7, .long y0, .ref h3, .ref h4, .ref h5, .ref h6, .ref h7, .ref h8, .ref h9, .ref h10, .ref h11, .ref h12, .ref h13, .ref h14, .ref h15, .ref h16, .ref h17, .ref h18, .ref h19, .ref h20, .int a8, .int a9, .int a10, .int a11, .int a12, .ref h21, .ref h22, .ref h23, .int a13, .int a14, .int a15, .int a16, .int a17, .ref h24, .ref h25, .ref h26, .ref h27, .int a18, .int a19, .int a20, .int a21, .int a22, .int a23, .int a24, .ref h28, .ref h29, .ref h30, .int a25, .ref h31, .ref h32, .ref h33, .ref h34, .ref h35, .ref h36, .ref h37, .int a26, .int a27, .ref h38, .ref h39, .ref h40, .ref h41, .ref h42, .ref h43])), (h3, .inl (cI, 2, .inl g2)), (h13, .inl (cZ, 2, .inl g12)), (h24, .inl (cI, 9, .inl g23))] t.heap ∧ va_D (va_A [(h0, .inr (9, [.ref h1, .ref h2, .int a0, .int a1, .int a2, .int a3, .int a4, .int a5, .int a6, .int a7, .long y0, .ref h3, .ref h4, .ref h5, .ref h6, .ref h7, .ref h8, .ref h9, .ref h10, .ref h11, .ref h12, .ref h13, .ref h14, .ref h15, .ref h16, .ref h17, .ref h18, .ref h19, .ref h20, .int a8, .int a9, .int a10, .int a11, .int a12, .ref h21, .ref h22, .ref h23, .int a13, .int a14, .int a15, .int a16, .int a17, .ref h24, .ref h25, .ref h26, .ref h27, .int a18, .int a19, .int a20, .int a21, .int a22, .int a23, .int a24, .ref h28, .ref h29, .ref h30, .int a25, .ref h31, .ref h32, .ref h33, .ref h34, .ref h35, .ref h36, .ref h37, .int a26, .int a27, .ref h38, .ref h39, .ref h40, .ref h41, .ref h42, .ref h43])), (h3, .inl (cI, 2, .inl g2)), (h13, .inl (cZ, 2, .inl g12)), (h24, .inl (cI, 9, .inl g23))] sz) [(h0, .inr (9, [.ref h1, .ref h2, .int a0, .int a1, .int a2, .int a3, .int a4, .int a5, .int a6, .int a7, .long y0, .ref h3, .ref h4, .ref h5, .ref h6, .ref h7, .ref h8, .ref h9, .ref h10, .ref h11, .ref h12, .ref h13, .ref h14, .ref h15, .ref h16, .ref h17, .ref h18, .ref h19, .ref h20, .int a8, .int a9, .int a10, .int a11, .int a12, .ref h21, .ref h22, .ref h23, .int a13, .int a14, .int a15, .int a16, .int a17, .ref h24, .ref h25, .ref h26, .ref h27, .int a18, .int a19, .int a20, .int a21, .int a22, .int a23, .int a24, .ref h28, .ref h29, .ref h30, .int a25, .ref h31, .ref h32, .ref h33, .ref h34, .ref h35, .ref h36, .ref h37, .int a26, .int a27, .ref h38, .ref h39, .ref h40, .ref h41, .ref h42, .ref h43])), (h3, .inl (cI, 2, .inl g2)), (h13, .inl (cZ, 2, .inl g12)), (h24, .inl (cI, 9, .inl g23))]) (va_A [(h0, .inr (9, [.ref h1, .ref h2, .int a0, .int a1, .int a2, .int a3, .int a4, .int a5, .int a6, .int a7, .long y0, .ref h3, .ref h4, .ref h5, .ref h6, .ref h7, .ref h8, .ref h9, .ref h10, .ref h11, .ref h12, .ref h13, .ref h14, .ref h15, .ref h16, .ref h17, .ref h18, .ref h19, .ref h20, .int a8, .int a9, .int a10, .int a11, .int a12, .ref h21, .ref h22, .ref h23, .int a13, .int a14, .int a15, .int a16, .int a17, .ref h24, .ref h25, .ref h26, .ref h27, .int a18, .int a19, .int a20, .int a21, .int a22, .int a23, .int a24, .ref h28, .ref h29, .ref h30, .int a25, .ref h31, .ref h32, .ref h33, .ref h34, .ref h35, .ref h36, .ref h37, .int a26, .int a27, .ref h38, .ref h39, .ref h40, .ref h41, .ref h42, .ref h43])), (h3, .inl (cI, 2, .inl g2)), (h13, .inl (cZ, 2, .inl g12)), (h24, .inl (cI, 9, .inl g23))] sz)) 0 0 (va_A [(h0, .inr (9, [.ref h1, .ref h2, .int a0, .int a1, .int a2, .int a3, .int a4, .int a5, .int a6, .int a7, .long y0, .ref h3, .ref h4, .ref h5, .ref h6, .ref h7, .ref h8, .ref h9, .ref h10, .ref h11, .ref h12, .ref h13, .ref h14, .ref h15, .ref h16, .ref h17, .ref h18, .ref h19, .ref h20, .int a8, .int a9, .int a10, .int a11, .int a12, .ref h21, .ref h22, .ref h23, .int a13, .int a14, .int a15, .int a16, .int a17, .ref h24, .ref h25, .ref h26, .ref h27, .int a18, .int a19, .int a20, .int a21, .int a22, .int a23, .int a24, .ref h28, .ref h29, .ref h30, .int a25, .ref h31, .ref h32, .ref h33, .ref h34, .ref h35, .ref h36, .ref h37, .int a26, .int a27, .ref h38, .ref h39, .ref h40, .ref h41, .ref h42, .ref h43])), (h3, .inl (cI, 2, .inl g2)), (h13, .inl (cZ, 2, .inl g12)), (h24, .inl (cI, 9, .inl g23))] sz) := by
  refine Met.ofW (cc := cX9_areBeside) (maxL := 5) (ret := (some .boolean)) (by decide) rfl ?_
  intro p e s m args below meth c s₁ B hml hv
  obtain ⟨rfl, hsz, hP, hK, hD0⟩ := hv
  have hx := B.exec
  have hb := B.bytes
  have hr := B.returns
  have hts := atoms_spec (ws := v_s_X9_areBeside) B.pre
  have hown : s.vm.findClass RX9 = some m.cls := findClass_of_methodNamed B.named
  have hlocks := B.notSynchronized
  have hinX9 : ∀ w ∈ wsX90, w ∈ v_s_X9_areBeside := fun _ h => List.mem_cons_of_mem _ (List.mem_append_right _ (List.mem_append_left _ h))
  subst hsz
  have hD := hD0.self (sz := s.heap.size)
  generalize hAe : va_A [(h0, .inr (9, [.ref h1, .ref h2, .int a0, .int a1, .int a2, .int a3, .int a4, .int a5, .int a6, .int a7, .long y0, .ref h3, .ref h4, .ref h5, .ref h6, .ref h7, .ref h8, .ref h9, .ref h10, .ref h11, .ref h12, .ref h13, .ref h14, .ref h15, .ref h16, .ref h17, .ref h18, .ref h19, .ref h20, .int a8, .int a9, .int a10, .int a11, .int a12, .ref h21, .ref h22, .ref h23, .int a13, .int a14, .int a15, .int a16, .int a17, .ref h24, .ref h25, .ref h26, .ref h27, .int a18, .int a19, .int a20, .int a21, .int a22, .int a23, .int a24, .ref h28, .ref h29, .ref h30, .int a25, .ref h31, .ref h32, .ref h33, .ref h34, .ref h35, .ref h36, .ref h37, .int a26, .int a27, .ref h38, .ref h39, .ref h40, .ref h41, .ref h42, .ref h43])), (h3, .inl (cI, 2, .inl g2)), (h13, .inl (cZ, 2, .inl g12)), (h24, .inl (cI, 9, .inl g23))] s.heap.size = A at hD ⊢
  have hA : ∀ q : Nat, s.heap.size ≤ q → A q := fun q h => by rw [← hAe]; exact Or.inr h
  have hP : va_P (dC, dI) vwCl [(h0, .inr (9, [.ref h1, .ref h2, .int a0, .int a1, .int a2, .int a3, .int a4, .int a5, .int a6, .int a7, .long y0, .ref h3, .ref h4, .ref h5, .ref h6, .ref h7, .ref h8, .ref h9, .ref h10, .ref h11, .ref h12, .ref h13, .ref h14, .ref h15, .ref h16, .ref h17, .ref h18, .ref h19, .ref h20, .int a8, .int a9, .int a10, .int a11, .int a12, .ref h21, .ref h22, .ref h23, .int a13, .int a14, .int a15, .int a16, .int a17, .ref h24, .ref h25, .ref h26, .ref h27, .int a18, .int a19, .int a20, .int a21, .int a22, .int a23, .int a24, .ref h28, .ref h29, .ref h30, .int a25, .ref h31, .ref h32, .ref h33, .ref h34, .ref h35, .ref h36, .ref h37, .int a26, .int a27, .ref h38, .ref h39, .ref h40, .ref h41, .ref h42, .ref h43])), (h3, .inl (cI, 2, .inl g2)), (h13, .inl (cZ, 2, .inl g12)), (h24, .inl (cI, 9, .inl g23))] s.heap := hP
  have hl := lv_entry ([.ref h0, .int p0, .int p1]) (n := 5) (Nat.le_of_ble_eq_true rfl)
  rw [lg_entry_eq]
  generalize (lg_sl ([.ref h0, .int p0, .int p1]) ++ List.replicate (5 - (lg_sl ([.ref h0, .int p0, .int p1])).length) Slot.unset).toArray = ls at hl ⊢
  have hl : lv_has ls 5 [(0, .ref h0), (1, .int p0), (2, .int p1)] := hl
  refine W_gen (A := A) hP (fun H locs hP hS => ?_)
  refine lv_aload_n hx hb dX9_areBeside_0 rfl (lv_at hl 0 rfl) ?_
  have hPc := hP.sub (ws' := [(h0, .inr (9, [.ref h1, .ref h2, .int a0, .int a1, .int a2, .int a3, .int a4, .int a5, .int a6, .int a7, .long y0, .ref h3, .ref h4, .ref h5, .ref h6, .ref h7, .ref h8, .ref h9, .ref h10, .ref h11, .ref h12, .ref h13, .ref h14, .ref h15, .ref h16, .ref h17, .ref h18, .ref h19, .ref h20, .int a8, .int a9, .int a10, .int a11, .int a12, .ref h21, .ref h22, .ref h23, .int a13, .int a14, .int a15, .int a16, .int a17, .ref h24, .ref h25, .ref h26, .ref h27, .int a18, .int a19, .int a20, .int a21, .int a22, .int a23, .int a24, .ref h28, .ref h29, .ref h30, .int a25, .ref h31, .ref h32, .ref h33, .ref h34, .ref h35, .ref h36, .ref h37, .int a26, .int a27, .ref h38, .ref h39, .ref h40, .ref h41, .ref h42, .ref h43])), (h3, .inl (cI, 2, .inl g2))]) [0, 1] rfl
  have hDc := hD.sub (ws' := [(h0, .inr (9, [.ref h1, .ref h2, .int a0, .int a1, .int a2, .int a3, .int a4, .int a5, .int a6, .int a7, .long y0, .ref h3, .ref h4, .ref h5, .ref h6, .ref h7, .ref h8, .ref h9, .ref h10, .ref h11, .ref h12, .ref h13, .ref h14, .ref h15, .ref h16, .ref h17, .ref h18, .ref h19, .ref h20, .int a8, .int a9, .int a10, .int a11, .int a12, .ref h21, .ref h22, .ref h23, .int a13, .int a14, .int a15, .int a16, .int a17, .ref h24, .ref h25, .ref h26, .ref h27, .int a18, .int a19, .int a20, .int a21, .int a22, .int a23, .int a24, .ref h28, .ref h29, .ref h30, .int a25, .ref h31, .ref h32, .ref h33, .ref h34, .ref h35, .ref h36, .ref h37, .int a26, .int a27, .ref h38, .ref h39, .ref h40, .ref h41, .ref h42, .ref h43])), (h3, .inl (cI, 2, .inl g2))]) [0, 1] (by decide) rfl
  have hFc := va_free (wc := [(h0, .inr (9, [.ref h1, .ref h2, .int a0, .int a1, .int a2, .int a3, .int a4, .int a5, .int a6, .int a7, .long y0, .ref h3, .ref h4, .ref h5, .ref h6, .ref h7, .ref h8, .ref h9, .ref h10, .ref h11, .ref h12, .ref h13, .ref h14, .ref h15, .ref h16, .ref h17, .ref h18, .ref h19, .ref h20, .int a8, .int a9, .int a10, .int a11, .int a12, .ref h21, .ref h22, .ref h23, .int a13, .int a14, .int a15, .int a16, .int a17, .ref h24, .ref h25, .ref h26, .ref h27, .int a18, .int a19, .int a20, .int a21, .int a22, .int a23, .int a24, .ref h28, .ref h29, .ref h30, .int a25, .ref h31, .ref h32, .ref h33, .ref h34, .ref h35, .ref h36, .ref h37, .int a26, .int a27, .ref h38, .ref h39, .ref h40, .ref h41, .ref h42, .ref h43])), (h3, .inl (cI, 2, .inl g2))]) hD hS hA [0, 1] rfl
  refine va_calli (va_runV (As := []) (rest := []) ⟨hx, hb, hml, hown, hts⟩ (c_s_X9_manyIn l dC dI cB cI cJ cZ cP h0 h1 h2 a0 a1 a2 a3 a4 a5 a6 a7 y0 h3 g2 hg2 h4 h5 h6 h7 h8 h9 h10 h11 h12 h13 h14 h15 h16 h17 h18 h19 h20 a8 (rg_mono ha8 (by decide) (by decide)) a9 a10 a11 a12 h21 h22 h23 a13 a14 a15 a16 a17 h24 h25 h26 h27 a18 a19 a20 a21 a22 a23 a24 h28 h29 h30 a25 h31 h32 h33 h34 h35 h36 h37 a26 a27 h38 h39 h40 h41 h42 h43 kr0 H.size) (cwV 0 hts (gd_V (List.mem_of_getElem? (i := 1) rfl) (List.mem_of_getElem? (i := 2) rfl) (List.mem_of_getElem? (i := 3) rfl) (List.mem_of_getElem? (i := 4) rfl) (gd_mono k_s_X9_manyIn (fun _ h => List.mem_cons_of_mem _ (List.mem_append_right _ (List.mem_append_right _ (List.mem_append_left _ h)))))) rfl rfl rfl (by decide +kernel) ⟨Nat.le_of_ble_eq_true rfl, Nat.le_of_ble_eq_true rfl⟩) ⟨fun a U g mk q => by obtain ⟨q0, q1, qP, qK, qD⟩ := q; exact ⟨q0, q1, qP, va_K.moved (u := U) (U := U.calling g mk a) (Vm.Alike.refl U.vm) qK, qD⟩, va_recv hK hPc (ci := 9) (q0 := 0) rfl rfl, fun U hU hW => ⟨rfl, by rw [hU], by rw [hU]; exact hPc, va_K.moved hW.alike hK, hDc.weaken (fun _ _ _ _ => trivial)⟩⟩ rfl rfl hl.1 rfl (lv_room (Nat.le_of_ble_eq_true rfl)) dX9_areBeside_1 ⟨Nat.le_of_ble_eq_true rfl, Nat.le_of_ble_eq_true rfl⟩) hS (fun q _ h => hFc q h) hFc (fun r_1 u t H1 locs ht hvm hw hB hz1 hk1 hS => ?_)
  obtain ⟨hu9, hw⟩ := hw
  rw [hu9] at hB
  clear hu9
  obtain ⟨k_2, hP1, hD1⟩ := hB
  rw [ht] at hP1
  obtain ⟨hP, hD⟩ := va_join (wr := [(h13, .inl (cZ, 2, .inl g12)), (h24, .inl (cI, 9, .inl g23))]) (w1 := [(h0, .inr (9, [.ref h1, .ref h2, .int a0, .int a1, .int a2, .int a3, .int a4, .int a5, .int a6, .int a7, .long y0, .ref h3, .ref h4, .ref h5, .ref h6, .ref h7, .ref h8, .ref h9, .ref h10, .ref h11, .ref h12, .ref h13, .ref h14, .ref h15, .ref h16, .ref h17, .ref h18, .ref h19, .ref h20, .int a8, .int a9, .int a10, .int a11, .int a12, .ref h21, .ref h22, .ref h23, .int a13, .int a14, .int a15, .int a16, .int a17, .ref h24, .ref h25, .ref h26, .ref h27, .int a18, .int a19, .int a20, .int a21, .int a22, .int a23, .int a24, .ref h28, .ref h29, .ref h30, .int a25, .ref h31, .ref h32, .ref h33, .ref h34, .ref h35, .ref h36, .ref h37, .int a26, .int a27, .ref h38, .ref h39, .ref h40, .ref h41, .ref h42, .ref h43])), (h3, .inl (cI, 2, .inl g2))]) hP hD [0, 1] [2, 3] rfl rfl (by decide) (by decide) hk1 hFc hP1 hD1
  generalize H1 = H at hP hS ⊢
  replace hP : va_P (dC, dI) vwCl [(h13, .inl (cZ, 2, .inl g12)), (h24, .inl (cI, 9, .inl g23)), (h0, .inr (9, [.ref h1, .ref h2, .int a0, .int a1, .int a2, .int a3, .int a4, .int a5, .int a6, .int a7, .long y0, .ref h3, .ref h4, .ref h5, .ref h6, .ref h7, .ref h8, .ref h9, .ref h10, .ref h11, .ref h12, .ref h13, .ref h14, .ref h15, .ref h16, .ref h17, .ref h18, .ref h19, .ref h20, .int a8, .int a9, .int a10, .int a11, .int a12, .ref h21, .ref h22, .ref h23, .int a13, .int a14, .int a15, .int a16, .int a17, .ref h24, .ref h25, .ref h26, .ref h27, .int a18, .int a19, .int a20, .int a21, .int a22, .int a23, .int a24, .ref h28, .ref h29, .ref h30, .int a25, .ref h31, .ref h32, .ref h33, .ref h34, .ref h35, .ref h36, .ref h37, .int a26, .int a27, .ref h38, .ref h39, .ref h40, .ref h41, .ref h42, .ref h43])), (h3, .inl (cI, 2, .inl g2))] H := hP
  replace hD : va_D A [(h13, .inl (cZ, 2, .inl g12)), (h24, .inl (cI, 9, .inl g23)), (h0, .inr (9, [.ref h1, .ref h2, .int a0, .int a1, .int a2, .int a3, .int a4, .int a5, .int a6, .int a7, .long y0, .ref h3, .ref h4, .ref h5, .ref h6, .ref h7, .ref h8, .ref h9, .ref h10, .ref h11, .ref h12, .ref h13, .ref h14, .ref h15, .ref h16, .ref h17, .ref h18, .ref h19, .ref h20, .int a8, .int a9, .int a10, .int a11, .int a12, .ref h21, .ref h22, .ref h23, .int a13, .int a14, .int a15, .int a16, .int a17, .ref h24, .ref h25, .ref h26, .ref h27, .int a18, .int a19, .int a20, .int a21, .int a22, .int a23, .int a24, .ref h28, .ref h29, .ref h30, .int a25, .ref h31, .ref h32, .ref h33, .ref h34, .ref h35, .ref h36, .ref h37, .int a26, .int a27, .ref h38, .ref h39, .ref h40, .ref h41, .ref h42, .ref h43])), (h3, .inl (cI, 2, .inl g2))] := hD
  have hr_1 : rg (0) (9) r_1 := hw
  refine lv_istore_n (lv' := [(3, .int r_1), (0, .ref h0), (1, .int p0), (2, .int p1)]) hx hb dX9_areBeside_4 rfl hl (by decide) rfl (fun ls hl => ?_)
  refine lv_iconst (v := 0) hx hb dX9_areBeside_5 (by decide) ?_
  refine lv_istore (lv' := [(4, .int 0), (3, .int r_1), (0, .ref h0), (1, .int p0), (2, .int p1)]) hx hb dX9_areBeside_6 hl (by decide) rfl (fun ls hl => ?_)
  refine W_loopM (σ := Int32) (fun u H locs ls => va_P (dC, dI) vwCl [(h13, .inl (cZ, 2, .inl g12)), (h24, .inl (cI, 9, .inl g23)), (h0, .inr (9, [.ref h1, .ref h2, .int a0, .int a1, .int a2, .int a3, .int a4, .int a5, .int a6, .int a7, .long y0, .ref h3, .ref h4, .ref h5, .ref h6, .ref h7, .ref h8, .ref h9, .ref h10, .ref h11, .ref h12, .ref h13, .ref h14, .ref h15, .ref h16, .ref h17, .ref h18, .ref h19, .ref h20, .int a8, .int a9, .int a10, .int a11, .int a12, .ref h21, .ref h22, .ref h23, .int a13, .int a14, .int a15, .int a16, .int a17, .ref h24, .ref h25, .ref h26, .ref h27, .int a18, .int a19, .int a20, .int a21, .int a22, .int a23, .int a24, .ref h28, .ref h29, .ref h30, .int a25, .ref h31, .ref h32, .ref h33, .ref h34, .ref h35, .ref h36, .ref h37, .int a26, .int a27, .ref h38, .ref h39, .ref h40, .ref h41, .ref h42, .ref h43])), (h3, .inl (cI, 2, .inl g2))] H ∧ va_D A [(h13, .inl (cZ, 2, .inl g12)), (h24, .inl (cI, 9, .inl g23)), (h0, .inr (9, [.ref h1, .ref h2, .int a0, .int a1, .int a2, .int a3, .int a4, .int a5, .int a6, .int a7, .long y0, .ref h3, .ref h4, .ref h5, .ref h6, .ref h7, .ref h8, .ref h9, .ref h10, .ref h11, .ref h12, .ref h13, .ref h14, .ref h15, .ref h16, .ref h17, .ref h18, .ref h19, .ref h20, .int a8, .int a9, .int a10, .int a11, .int a12, .ref h21, .ref h22, .ref h23, .int a13, .int a14, .int a15, .int a16, .int a17, .ref h24, .ref h25, .ref h26, .ref h27, .int a18, .int a19, .int a20, .int a21, .int a22, .int a23, .int a24, .ref h28, .ref h29, .ref h30, .int a25, .ref h31, .ref h32, .ref h33, .ref h34, .ref h35, .ref h36, .ref h37, .int a26, .int a27, .ref h38, .ref h39, .ref h40, .ref h41, .ref h42, .ref h43])), (h3, .inl (cI, 2, .inl g2))] ∧ va_S A s.heap H locs ∧ lv_has ls 5 [(4, .int u), (3, .int r_1), (0, .ref h0), (1, .int p0), (2, .int p1)] ∧ rg (0) (8) u) (fun u => ((8) - u.toInt).toNat) 8 [] ?_ (0) H locs ls ⟨hP, hD, hS, hl, (rg_mono (rg_k (x := 0) (c := 0) (by decide)) (by decide) (by decide))⟩
  rintro x_345 H locs ls ⟨hP, hD, hS, hl, hx_345⟩ ih_395
  replace hP : va_P (dC, dI) vwCl [(h13, .inl (cZ, 2, .inl g12)), (h24, .inl (cI, 9, .inl g23)), (h0, .inr (9, [.ref h1, .ref h2, .int a0, .int a1, .int a2, .int a3, .int a4, .int a5, .int a6, .int a7, .long y0, .ref h3, .ref h4, .ref h5, .ref h6, .ref h7, .ref h8, .ref h9, .ref h10, .ref h11, .ref h12, .ref h13, .ref h14, .ref h15, .ref h16, .ref h17, .ref h18, .ref h19, .ref h20, .int a8, .int a9, .int a10, .int a11, .int a12, .ref h21, .ref h22, .ref h23, .int a13, .int a14, .int a15, .int a16, .int a17, .ref h24, .ref h25, .ref h26, .ref h27, .int a18, .int a19, .int a20, .int a21, .int a22, .int a23, .int a24, .ref h28, .ref h29, .ref h30, .int a25, .ref h31, .ref h32, .ref h33, .ref h34, .ref h35, .ref h36, .ref h37, .int a26, .int a27, .ref h38, .ref h39, .ref h40, .ref h41, .ref h42, .ref h43])), (h3, .inl (cI, 2, .inl g2))] H := hP
  replace hD : va_D A [(h13, .inl (cZ, 2, .inl g12)), (h24, .inl (cI, 9, .inl g23)), (h0, .inr (9, [.ref h1, .ref h2, .int a0, .int a1, .int a2, .int a3, .int a4, .int a5, .int a6, .int a7, .long y0, .ref h3, .ref h4, .ref h5, .ref h6, .ref h7, .ref h8, .ref h9, .ref h10, .ref h11, .ref h12, .ref h13, .ref h14, .ref h15, .ref h16, .ref h17, .ref h18, .ref h19, .ref h20, .int a8, .int a9, .int a10, .int a11, .int a12, .ref h21, .ref h22, .ref h23, .int a13, .int a14, .int a15, .int a16, .int a17, .ref h24, .ref h25, .ref h26, .ref h27, .int a18, .int a19, .int a20, .int a21, .int a22, .int a23, .int a24, .ref h28, .ref h29, .ref h30, .int a25, .ref h31, .ref h32, .ref h33, .ref h34, .ref h35, .ref h36, .ref h37, .int a26, .int a27, .ref h38, .ref h39, .ref h40, .ref h41, .ref h42, .ref h43])), (h3, .inl (cI, 2, .inl g2))] := hD
  replace hl : lv_has ls 5 [(4, .int x_345), (3, .int r_1), (0, .ref h0), (1, .int p0), (2, .int p1)] := hl
  replace hx_345 : rg (0) (8) x_345 := hx_345
  refine lv_iload hx hb dX9_areBeside_8 (lv_at hl 0 rfl) ?_
  refine lv_iconst (v := 1) hx hb dX9_areBeside_10 (by decide) ?_
  refine lv_iadd hx hb dX9_areBeside_11 ?_
  refine lv_topi (fun x_396 ex_396 => ?_)
  have hx_396 : rg (1) (9) x_396 := by rw [ex_396]; exact rg_mono (rg_add hx_345 (rg_k (x := 1) (c := 1) (by decide)) (by decide) (by decide)) (by decide) (by decide)
  have qx_396 : x_396.toInt = x_345.toInt + (1) := by rw [ex_396]; exact rg_addE hx_345 (rg_k (x := 1) (c := 1) (by decide)) (by decide) (by decide) trivial
  refine lv_iload_n hx hb dX9_areBeside_12 rfl (lv_at hl 1 rfl) ?_
  refine lv_icmp_ge (tgt := 72) hx hb dX9_areBeside_13 (by decide) (fun c_397 => ?_) (fun c_397 => ?_)
  · skip
    refine lv_aload_n hx hb dX9_areBeside_72 rfl (lv_at hl 2 rfl) ?_
    have hPc := hP.sub (ws' := [(h0, .inr (9, [.ref h1, .ref h2, .int a0, .int a1, .int a2, .int a3, .int a4, .int a5, .int a6, .int a7, .long y0, .ref h3, .ref h4, .ref h5, .ref h6, .ref h7, .ref h8, .ref h9, .ref h10, .ref h11, .ref h12, .ref h13, .ref h14, .ref h15, .ref h16, .ref h17, .ref h18, .ref h19, .ref h20, .int a8, .int a9, .int a10, .int a11, .int a12, .ref h21, .ref h22, .ref h23, .int a13, .int a14, .int a15, .int a16, .int a17, .ref h24, .ref h25, .ref h26, .ref h27, .int a18, .int a19, .int a20, .int a21, .int a22, .int a23, .int a24, .ref h28, .ref h29, .ref h30, .int a25, .ref h31, .ref h32, .ref h33, .ref h34, .ref h35, .ref h36, .ref h37, .int a26, .int a27, .ref h38, .ref h39, .ref h40, .ref h41, .ref h42, .ref h43])), (h3, .inl (cI, 2, .inl g2)), (h13, .inl (cZ, 2, .inl g12))]) [2, 3, 0] rfl
    have hDc := hD.sub (ws' := [(h0, .inr (9, [.ref h1, .ref h2, .int a0, .int a1, .int a2, .int a3, .int a4, .int a5, .int a6, .int a7, .long y0, .ref h3, .ref h4, .ref h5, .ref h6, .ref h7, .ref h8, .ref h9, .ref h10, .ref h11, .ref h12, .ref h13, .ref h14, .ref h15, .ref h16, .ref h17, .ref h18, .ref h19, .ref h20, .int a8, .int a9, .int a10, .int a11, .int a12, .ref h21, .ref h22, .ref h23, .int a13, .int a14, .int a15, .int a16, .int a17, .ref h24, .ref h25, .ref h26, .ref h27, .int a18, .int a19, .int a20, .int a21, .int a22, .int a23, .int a24, .ref h28, .ref h29, .ref h30, .int a25, .ref h31, .ref h32, .ref h33, .ref h34, .ref h35, .ref h36, .ref h37, .int a26, .int a27, .ref h38, .ref h39, .ref h40, .ref h41, .ref h42, .ref h43])), (h3, .inl (cI, 2, .inl g2)), (h13, .inl (cZ, 2, .inl g12))]) [2, 3, 0] (by decide) rfl
    have hFc := va_free (wc := [(h0, .inr (9, [.ref h1, .ref h2, .int a0, .int a1, .int a2, .int a3, .int a4, .int a5, .int a6, .int a7, .long y0, .ref h3, .ref h4, .ref h5, .ref h6, .ref h7, .ref h8, .ref h9, .ref h10, .ref h11, .ref h12, .ref h13, .ref h14, .ref h15, .ref h16, .ref h17, .ref h18, .ref h19, .ref h20, .int a8, .int a9, .int a10, .int a11, .int a12, .ref h21, .ref h22, .ref h23, .int a13, .int a14, .int a15, .int a16, .int a17, .ref h24, .ref h25, .ref h26, .ref h27, .int a18, .int a19, .int a20, .int a21, .int a22, .int a23, .int a24, .ref h28, .ref h29, .ref h30, .int a25, .ref h31, .ref h32, .ref h33, .ref h34, .ref h35, .ref h36, .ref h37, .int a26, .int a27, .ref h38, .ref h39, .ref h40, .ref h41, .ref h42, .ref h43])), (h3, .inl (cI, 2, .inl g2)), (h13, .inl (cZ, 2, .inl g12))]) hD hS hA [2, 3, 0] rfl
    refine va_calli (va_runV (As := []) (rest := []) ⟨hx, hb, hml, hown, hts⟩ (c_s_X9_isRing l dC dI cB cI cJ cZ cP h0 h1 h2 a0 a1 a2 a3 a4 a5 a6 a7 y0 h3 g2 hg2 h4 h5 h6 h7 h8 h9 h10 h11 h12 h13 g12 hg12 h14 h15 h16 h17 h18 h19 h20 a8 (rg_mono ha8 (by decide) (by decide)) a9 a10 a11 a12 h21 h22 h23 a13 a14 a15 a16 a17 h24 h25 h26 h27 a18 a19 a20 a21 a22 a23 a24 h28 h29 h30 a25 h31 h32 h33 h34 h35 h36 h37 a26 a27 h38 h39 h40 h41 h42 h43 kr0 H.size) (cwV 0 hts (gd_V (List.mem_of_getElem? (i := 5) rfl) (List.mem_of_getElem? (i := 6) rfl) (List.mem_of_getElem? (i := 7) rfl) (List.mem_of_getElem? (i := 4) rfl) (gd_mono k_s_X9_isRing (fun _ h => List.mem_cons_of_mem _ (List.mem_append_right _ (List.mem_append_right _ (List.mem_append_right _ (List.mem_append_left _ h))))))) rfl rfl rfl (by decide +kernel) ⟨Nat.le_of_ble_eq_true rfl, Nat.le_of_ble_eq_true rfl⟩) ⟨fun a U g mk q => by obtain ⟨q0, q1, qP, qK, qD⟩ := q; exact ⟨q0, q1, qP, va_K.moved (u := U) (U := U.calling g mk a) (Vm.Alike.refl U.vm) qK, qD⟩, va_recv hK hPc (ci := 9) (q0 := 0) rfl rfl, fun U hU hW => ⟨rfl, by rw [hU], by rw [hU]; exact hPc, va_K.moved hW.alike hK, hDc.weaken (fun _ _ _ _ => trivial)⟩⟩ rfl rfl hl.1 rfl (lv_room (Nat.le_of_ble_eq_true rfl)) dX9_areBeside_73 ⟨Nat.le_of_ble_eq_true rfl, Nat.le_of_ble_eq_true rfl⟩) hS (fun q _ h => hFc q h) hFc (fun r_398 u t H1 locs ht hvm hw hB hz1 hk1 hS => ?_)
    obtain ⟨hu9, hw⟩ := hw
    rw [hu9] at hB
    clear hu9
    obtain ⟨k_399, k_400, hP1, hD1⟩ := hB
    rw [ht] at hP1
    obtain ⟨hP, hD⟩ := va_join (wr := [(h24, .inl (cI, 9, .inl g23))]) (w1 := [(h0, .inr (9, [.ref h1, .ref h2, .int a0, .int a1, .int a2, .int a3, .int a4, .int a5, .int a6, .int a7, .long y0, .ref h3, .ref h4, .ref h5, .ref h6, .ref h7, .ref h8, .ref h9, .ref h10, .ref h11, .ref h12, .ref h13, .ref h14, .ref h15, .ref h16, .ref h17, .ref h18, .ref h19, .ref h20, .int a8, .int a9, .int a10, .int a11, .int a12, .ref h21, .ref h22, .ref h23, .int a13, .int a14, .int a15, .int a16, .int a17, .ref h24, .ref h25, .ref h26, .ref h27, .int a18, .int a19, .int a20, .int a21, .int a22, .int a23, .int a24, .ref h28, .ref h29, .ref h30, .int a25, .ref h31, .ref h32, .ref h33, .ref h34, .ref h35, .ref h36, .ref h37, .int a26, .int a27, .ref h38, .ref h39, .ref h40, .ref h41, .ref h42, .ref h43])), (h3, .inl (cI, 2, .inl g2)), (h13, .inl (cZ, 2, .inl g12))]) hP hD [2, 3, 0] [1] rfl rfl (by decide) (by decide) hk1 hFc hP1 hD1
    generalize H1 = H at hP hS ⊢
    replace hP : va_P (dC, dI) vwCl [(h24, .inl (cI, 9, .inl g23)), (h0, .inr (9, [.ref h1, .ref h2, .int a0, .int a1, .int a2, .int a3, .int a4, .int a5, .int a6, .int a7, .long y0, .ref h3, .ref h4, .ref h5, .ref h6, .ref h7, .ref h8, .ref h9, .ref h10, .ref h11, .ref h12, .ref h13, .ref h14, .ref h15, .ref h16, .ref h17, .ref h18, .ref h19, .ref h20, .int a8, .int a9, .int a10, .int a11, .int a12, .ref h21, .ref h22, .ref h23, .int a13, .int a14, .int a15, .int a16, .int a17, .ref h24, .ref h25, .ref h26, .ref h27, .int a18, .int a19, .int a20, .int a21, .int a22, .int a23, .int a24, .ref h28, .ref h29, .ref h30, .int a25, .ref h31, .ref h32, .ref h33, .ref h34, .ref h35, .ref h36, .ref h37, .int a26, .int a27, .ref h38, .ref h39, .ref h40, .ref h41, .ref h42, .ref h43])), (h3, .inl (cI, 2, .inl g2)), (h13, .inl (cZ, 2, .inl g12))] H := hP
    replace hD : va_D A [(h24, .inl (cI, 9, .inl g23)), (h0, .inr (9, [.ref h1, .ref h2, .int a0, .int a1, .int a2, .int a3, .int a4, .int a5, .int a6, .int a7, .long y0, .ref h3, .ref h4, .ref h5, .ref h6, .ref h7, .ref h8, .ref h9, .ref h10, .ref h11, .ref h12, .ref h13, .ref h14, .ref h15, .ref h16, .ref h17, .ref h18, .ref h19, .ref h20, .int a8, .int a9, .int a10, .int a11, .int a12, .ref h21, .ref h22, .ref h23, .int a13, .int a14, .int a15, .int a16, .int a17, .ref h24, .ref h25, .ref h26, .ref h27, .int a18, .int a19, .int a20, .int a21, .int a22, .int a23, .int a24, .ref h28, .ref h29, .ref h30, .int a25, .ref h31, .ref h32, .ref h33, .ref h34, .ref h35, .ref h36, .ref h37, .int a26, .int a27, .ref h38, .ref h39, .ref h40, .ref h41, .ref h42, .ref h43])), (h3, .inl (cI, 2, .inl g2)), (h13, .inl (cZ, 2, .inl g12))] := hD
    have hr_398 : rg (0) (1) r_398 := hw
    have k_401 : rg 1 1 r_398 → rg 3 9 r_1 := fun hq => ⟨by rw [k_2]; exact k_399 (rg_eq hq (by decide)), (rg_mono (d := 9) hr_1 (Int.le_refl _) (by decide)).2⟩
    refine lv_if_eq (tgt := 127) hx hb dX9_areBeside_76 (by decide) (fun c_402 => ?_) (fun c_402 => ?_)
    · skip
      have h_403 : rg (0) (0) r_398 := by have ha := hr_398; have hb_ := (rg_k (x := 0) (c := 0) (by decide)); simp only [rg, fa_lt, fa_le, fa_eq, (by decide : (0 : Int32).toInt = 0)] at ha hb_ c_402; simp only [rg]; omega
      refine lv_iconst (v := 0) hx hb dX9_areBeside_127 (by decide) ?_
      have hP9 := hP.sub (ws' := [(h0, .inr (9, [.ref h1, .ref h2, .int a0, .int a1, .int a2, .int a3, .int a4, .int a5, .int a6, .int a7, .long y0, .ref h3, .ref h4, .ref h5, .ref h6, .ref h7, .ref h8, .ref h9, .ref h10, .ref h11, .ref h12, .ref h13, .ref h14, .ref h15, .ref h16, .ref h17, .ref h18, .ref h19, .ref h20, .int a8, .int a9, .int a10, .int a11, .int a12, .ref h21, .ref h22, .ref h23, .int a13, .int a14, .int a15, .int a16, .int a17, .ref h24, .ref h25, .ref h26, .ref h27, .int a18, .int a19, .int a20, .int a21, .int a22, .int a23, .int a24, .ref h28, .ref h29, .ref h30, .int a25, .ref h31, .ref h32, .ref h33, .ref h34, .ref h35, .ref h36, .ref h37, .int a26, .int a27, .ref h38, .ref h39, .ref h40, .ref h41, .ref h42, .ref h43])), (h3, .inl (cI, 2, .inl g2)), (h13, .inl (cZ, 2, .inl g12)), (h24, .inl (cI, 9, .inl g23))]) [1, 2, 3, 0] rfl
      have hD9 := hD.sub (ws' := [(h0, .inr (9, [.ref h1, .ref h2, .int a0, .int a1, .int a2, .int a3, .int a4, .int a5, .int a6, .int a7, .long y0, .ref h3, .ref h4, .ref h5, .ref h6, .ref h7, .ref h8, .ref h9, .ref h10, .ref h11, .ref h12, .ref h13, .ref h14, .ref h15, .ref h16, .ref h17, .ref h18, .ref h19, .ref h20, .int a8, .int a9, .int a10, .int a11, .int a12, .ref h21, .ref h22, .ref h23, .int a13, .int a14, .int a15, .int a16, .int a17, .ref h24, .ref h25, .ref h26, .ref h27, .int a18, .int a19, .int a20, .int a21, .int a22, .int a23, .int a24, .ref h28, .ref h29, .ref h30, .int a25, .ref h31, .ref h32, .ref h33, .ref h34, .ref h35, .ref h36, .ref h37, .int a26, .int a27, .ref h38, .ref h39, .ref h40, .ref h41, .ref h42, .ref h43])), (h3, .inl (cI, 2, .inl g2)), (h13, .inl (cZ, 2, .inl g12)), (h24, .inl (cI, 9, .inl g23))]) [1, 2, 3, 0] (by decide) rfl
      exact W.zret (v := 0) hx hb hr (rfl) (fun t ht hW => ⟨⟨0, (), rfl, (rg_mono (rg_k (x := 0) (c := 0) (by decide)) (by decide) (by decide)), ⟨by rw [ht]; exact hP9, hD9⟩⟩, hS.F ht⟩) hS.2.2 dX9_areBeside_128
    · skip
      have h_404 : rg (1) (1) r_398 := by have ha := hr_398; have hb_ := (rg_k (x := 0) (c := 0) (by decide)); simp only [rg, fa_lt, fa_le, fa_eq, (by decide : (0 : Int32).toInt = 0)] at ha hb_ c_402; simp only [rg]; omega
      have h_405 : rg (3) (9) r_1 := rg_meet hr_1 (k_401 (rg_mono h_404 (by decide) (by decide))) (by decide) (by decide)
      have h_406 : rg (3) (9) x_396 := by have ha := hx_396; have hb_ := h_405; have hc_ := c_397; simp only [rg, fa_lt, fa_le, fa_eq] at ha hb_ hc_; simp only [rg]; omega
      have h_407 : rg (2) (8) x_345 := by have ha := h_406; have hb_ := hx_345; simp only [rg] at ha hb_ ⊢; omega
      refine lv_aload_n hx hb dX9_areBeside_79 rfl (lv_at hl 2 rfl) ?_
      refine va_get (D := (dC, dI)) (ci := 9) (v := .ref h24) (C := RX9) (T := TX9) (N := 72) hx hb hts hinX9 hown hK hP 1 rfl rfl 42 (by decide) (hts (.fieldLink RX9 89 "MayRingsModel" "row" "[I") (List.mem_of_getElem? (i := 8) rfl)) (fun _ h9 => h9) rfl dX9_areBeside_80 ?_
      refine lv_iload_n hx hb dX9_areBeside_83 rfl (lv_at hl 1 rfl) ?_
      refine lv_iconst (v := 1) hx hb dX9_areBeside_84 (by decide) ?_
      refine lv_isub hx hb dX9_areBeside_85 ?_
      refine lv_topi (fun x_408 ex_408 => ?_)
      have hx_408 : rg (2) (8) x_408 := by rw [ex_408]; exact rg_mono (rg_sub h_405 (rg_k (x := 1) (c := 1) (by decide)) (by decide) (by decide)) (by decide) (by decide)
      have qx_408 : x_408.toInt = r_1.toInt + (-1) := by rw [ex_408]; exact rg_subE h_405 (rg_k (x := 1) (c := 1) (by decide)) (by decide) (by decide) trivial
      refine va_iald hx hb hK hP 0 1 rfl rfl (rg_in (n := 9) (rg_mono hx_408 (by decide) (by decide))) dX9_areBeside_86 ?_
      refine lv_topi (fun x_409 ex_409 => ?_)
      have hx_409 : rg (-1) (9) x_409 := by rw [ex_409]; exact rg_mono (hg23 _) (by decide) (by decide)
      refine lv_iload_n hx hb dX9_areBeside_87 rfl (lv_at hl 3 rfl) ?_
      refine lv_icmp_ne (tgt := 101) hx hb dX9_areBeside_88 (by decide) (fun c_410 => ?_) (fun c_410 => ?_)
      · skip
        refine lv_aload_n hx hb dX9_areBeside_101 rfl (lv_at hl 2 rfl) ?_
        refine va_get (D := (dC, dI)) (ci := 9) (v := .ref h24) (C := RX9) (T := TX9) (N := 72) hx hb hts hinX9 hown hK hP 1 rfl rfl 42 (by decide) (hts (.fieldLink RX9 89 "MayRingsModel" "row" "[I") (List.mem_of_getElem? (i := 8) rfl)) (fun _ h9 => h9) rfl dX9_areBeside_102 ?_
        refine lv_iload_n hx hb dX9_areBeside_105 rfl (lv_at hl 1 rfl) ?_
        refine lv_iconst (v := 1) hx hb dX9_areBeside_106 (by decide) ?_
        refine lv_isub hx hb dX9_areBeside_107 ?_
        refine tp_v (.int x_408) (congrArg Value.int (ex_408.symm)) ?_
        refine va_iald hx hb hK hP 0 1 rfl rfl (rg_in (n := 9) (rg_mono hx_408 (by decide) (by decide))) dX9_areBeside_108 ?_
        refine tp_v (.int x_409) (congrArg Value.int (ex_409.symm)) ?_
        refine lv_iload_n hx hb dX9_areBeside_109 rfl (lv_at hl 4 rfl) ?_
        refine lv_icmp_ne (tgt := 127) hx hb dX9_areBeside_110 (by decide) (fun c_411 => ?_) (fun c_411 => ?_)
        · skip
          refine lv_iconst (v := 0) hx hb dX9_areBeside_127 (by decide) ?_
          have hP9 := hP.sub (ws' := [(h0, .inr (9, [.ref h1, .ref h2, .int a0, .int a1, .int a2, .int a3, .int a4, .int a5, .int a6, .int a7, .long y0, .ref h3, .ref h4, .ref h5, .ref h6, .ref h7, .ref h8, .ref h9, .ref h10, .ref h11, .ref h12, .ref h13, .ref h14, .ref h15, .ref h16, .ref h17, .ref h18, .ref h19, .ref h20, .int a8, .int a9, .int a10, .int a11, .int a12, .ref h21, .ref h22, .ref h23, .int a13, .int a14, .int a15, .int a16, .int a17, .ref h24, .ref h25, .ref h26, .ref h27, .int a18, .int a19, .int a20, .int a21, .int a22, .int a23, .int a24, .ref h28, .ref h29, .ref h30, .int a25, .ref h31, .ref h32, .ref h33, .ref h34, .ref h35, .ref h36, .ref h37, .int a26, .int a27, .ref h38, .ref h39, .ref h40, .ref h41, .ref h42, .ref h43])), (h3, .inl (cI, 2, .inl g2)), (h13, .inl (cZ, 2, .inl g12)), (h24, .inl (cI, 9, .inl g23))]) [1, 2, 3, 0] rfl
          have hD9 := hD.sub (ws' := [(h0, .inr (9, [.ref h1, .ref h2, .int a0, .int a1, .int a2, .int a3, .int a4, .int a5, .int a6, .int a7, .long y0, .ref h3, .ref h4, .ref h5, .ref h6, .ref h7, .ref h8, .ref h9, .ref h10, .ref h11, .ref h12, .ref h13, .ref h14, .ref h15, .ref h16, .ref h17, .ref h18, .ref h19, .ref h20, .int a8, .int a9, .int a10, .int a11, .int a12, .ref h21, .ref h22, .ref h23, .int a13, .int a14, .int a15, .int a16, .int a17, .ref h24, .ref h25, .ref h26, .ref h27, .int a18, .int a19, .int a20, .int a21, .int a22, .int a23, .int a24, .ref h28, .ref h29, .ref h30, .int a25, .ref h31, .ref h32, .ref h33, .ref h34, .ref h35, .ref h36, .ref h37, .int a26, .int a27, .ref h38, .ref h39, .ref h40, .ref h41, .ref h42, .ref h43])), (h3, .inl (cI, 2, .inl g2)), (h13, .inl (cZ, 2, .inl g12)), (h24, .inl (cI, 9, .inl g23))]) [1, 2, 3, 0] (by decide) rfl
          exact W.zret (v := 0) hx hb hr (rfl) (fun t ht hW => ⟨⟨0, (), rfl, (rg_mono (rg_k (x := 0) (c := 0) (by decide)) (by decide) (by decide)), ⟨by rw [ht]; exact hP9, hD9⟩⟩, hS.F ht⟩) hS.2.2 dX9_areBeside_128
        · skip
          have h_412 : rg (-1) (9) p1 := by have ha := hx_409; have hb_ := (rg_any p1); simp only [rg, fa_lt, fa_le, fa_eq] at ha hb_ c_411; simp only [rg]; omega
          refine lv_aload_n hx hb dX9_areBeside_113 rfl (lv_at hl 2 rfl) ?_
          refine va_get (D := (dC, dI)) (ci := 9) (v := .ref h24) (C := RX9) (T := TX9) (N := 72) hx hb hts hinX9 hown hK hP 1 rfl rfl 42 (by decide) (hts (.fieldLink RX9 89 "MayRingsModel" "row" "[I") (List.mem_of_getElem? (i := 8) rfl)) (fun _ h9 => h9) rfl dX9_areBeside_114 ?_
          refine lv_iconst (v := 0) hx hb dX9_areBeside_117 (by decide) ?_
          refine va_iald hx hb hK hP 0 1 rfl rfl (rg_in (n := 9) (rg_mono (rg_k (x := 0) (c := 0) (by decide)) (by decide) (by decide))) dX9_areBeside_118 ?_
          refine lv_topi (fun x_413 ex_413 => ?_)
          have hx_413 : rg (-1) (9) x_413 := by rw [ex_413]; exact rg_mono (hg23 _) (by decide) (by decide)
          refine lv_iload_n hx hb dX9_areBeside_119 rfl (lv_at hl 3 rfl) ?_
          refine lv_icmp_ne (tgt := 127) hx hb dX9_areBeside_120 (by decide) (fun c_414 => ?_) (fun c_414 => ?_)
          · skip
            refine lv_iconst (v := 0) hx hb dX9_areBeside_127 (by decide) ?_
            have hP9 := hP.sub (ws' := [(h0, .inr (9, [.ref h1, .ref h2, .int a0, .int a1, .int a2, .int a3, .int a4, .int a5, .int a6, .int a7, .long y0, .ref h3, .ref h4, .ref h5, .ref h6, .ref h7, .ref h8, .ref h9, .ref h10, .ref h11, .ref h12, .ref h13, .ref h14, .ref h15, .ref h16, .ref h17, .ref h18, .ref h19, .ref h20, .int a8, .int a9, .int a10, .int a11, .int a12, .ref h21, .ref h22, .ref h23, .int a13, .int a14, .int a15, .int a16, .int a17, .ref h24, .ref h25, .ref h26, .ref h27, .int a18, .int a19, .int a20, .int a21, .int a22, .int a23, .int a24, .ref h28, .ref h29, .ref h30, .int a25, .ref h31, .ref h32, .ref h33, .ref h34, .ref h35, .ref h36, .ref h37, .int a26, .int a27, .ref h38, .ref h39, .ref h40, .ref h41, .ref h42, .ref h43])), (h3, .inl (cI, 2, .inl g2)), (h13, .inl (cZ, 2, .inl g12)), (h24, .inl (cI, 9, .inl g23))]) [1, 2, 3, 0] rfl
            have hD9 := hD.sub (ws' := [(h0, .inr (9, [.ref h1, .ref h2, .int a0, .int a1, .int a2, .int a3, .int a4, .int a5, .int a6, .int a7, .long y0, .ref h3, .ref h4, .ref h5, .ref h6, .ref h7, .ref h8, .ref h9, .ref h10, .ref h11, .ref h12, .ref h13, .ref h14, .ref h15, .ref h16, .ref h17, .ref h18, .ref h19, .ref h20, .int a8, .int a9, .int a10, .int a11, .int a12, .ref h21, .ref h22, .ref h23, .int a13, .int a14, .int a15, .int a16, .int a17, .ref h24, .ref h25, .ref h26, .ref h27, .int a18, .int a19, .int a20, .int a21, .int a22, .int a23, .int a24, .ref h28, .ref h29, .ref h30, .int a25, .ref h31, .ref h32, .ref h33, .ref h34, .ref h35, .ref h36, .ref h37, .int a26, .int a27, .ref h38, .ref h39, .ref h40, .ref h41, .ref h42, .ref h43])), (h3, .inl (cI, 2, .inl g2)), (h13, .inl (cZ, 2, .inl g12)), (h24, .inl (cI, 9, .inl g23))]) [1, 2, 3, 0] (by decide) rfl
            exact W.zret (v := 0) hx hb hr (rfl) (fun t ht hW => ⟨⟨0, (), rfl, (rg_mono (rg_k (x := 0) (c := 0) (by decide)) (by decide) (by decide)), ⟨by rw [ht]; exact hP9, hD9⟩⟩, hS.F ht⟩) hS.2.2 dX9_areBeside_128
          · skip
            have h_415 : rg (-1) (9) p0 := by have ha := hx_413; have hb_ := (rg_any p0); simp only [rg, fa_lt, fa_le, fa_eq] at ha hb_ c_414; simp only [rg]; omega
            refine lv_iconst (v := 1) hx hb dX9_areBeside_123 (by decide) ?_
            refine lv_goto (tgt := 128) hx hb dX9_areBeside_124 (by decide) ?_
            have hP9 := hP.sub (ws' := [(h0, .inr (9, [.ref h1, .ref h2, .int a0, .int a1, .int a2, .int a3, .int a4, .int a5, .int a6, .int a7, .long y0, .ref h3, .ref h4, .ref h5, .ref h6, .ref h7, .ref h8, .ref h9, .ref h10, .ref h11, .ref h12, .ref h13, .ref h14, .ref h15, .ref h16, .ref h17, .ref h18, .ref h19, .ref h20, .int a8, .int a9, .int a10, .int a11, .int a12, .ref h21, .ref h22, .ref h23, .int a13, .int a14, .int a15, .int a16, .int a17, .ref h24, .ref h25, .ref h26, .ref h27, .int a18, .int a19, .int a20, .int a21, .int a22, .int a23, .int a24, .ref h28, .ref h29, .ref h30, .int a25, .ref h31, .ref h32, .ref h33, .ref h34, .ref h35, .ref h36, .ref h37, .int a26, .int a27, .ref h38, .ref h39, .ref h40, .ref h41, .ref h42, .ref h43])), (h3, .inl (cI, 2, .inl g2)), (h13, .inl (cZ, 2, .inl g12)), (h24, .inl (cI, 9, .inl g23))]) [1, 2, 3, 0] rfl
            have hD9 := hD.sub (ws' := [(h0, .inr (9, [.ref h1, .ref h2, .int a0, .int a1, .int a2, .int a3, .int a4, .int a5, .int a6, .int a7, .long y0, .ref h3, .ref h4, .ref h5, .ref h6, .ref h7, .ref h8, .ref h9, .ref h10, .ref h11, .ref h12, .ref h13, .ref h14, .ref h15, .ref h16, .ref h17, .ref h18, .ref h19, .ref h20, .int a8, .int a9, .int a10, .int a11, .int a12, .ref h21, .ref h22, .ref h23, .int a13, .int a14, .int a15, .int a16, .int a17, .ref h24, .ref h25, .ref h26, .ref h27, .int a18, .int a19, .int a20, .int a21, .int a22, .int a23, .int a24, .ref h28, .ref h29, .ref h30, .int a25, .ref h31, .ref h32, .ref h33, .ref h34, .ref h35, .ref h36, .ref h37, .int a26, .int a27, .ref h38, .ref h39, .ref h40, .ref h41, .ref h42, .ref h43])), (h3, .inl (cI, 2, .inl g2)), (h13, .inl (cZ, 2, .inl g12)), (h24, .inl (cI, 9, .inl g23))]) [1, 2, 3, 0] (by decide) rfl
            exact W.zret (v := 1) hx hb hr (rfl) (fun t ht hW => ⟨⟨1, (), rfl, (rg_mono (rg_k (x := 1) (c := 1) (by decide)) (by decide) (by decide)), ⟨by rw [ht]; exact hP9, hD9⟩⟩, hS.F ht⟩) hS.2.2 dX9_areBeside_128
      · skip
        have h_416 : rg (-1) (9) p0 := by have ha := hx_409; have hb_ := (rg_any p0); simp only [rg, fa_lt, fa_le, fa_eq] at ha hb_ c_410; simp only [rg]; omega
        refine lv_aload_n hx hb dX9_areBeside_91 rfl (lv_at hl 2 rfl) ?_
        refine va_get (D := (dC, dI)) (ci := 9) (v := .ref h24) (C := RX9) (T := TX9) (N := 72) hx hb hts hinX9 hown hK hP 1 rfl rfl 42 (by decide) (hts (.fieldLink RX9 89 "MayRingsModel" "row" "[I") (List.mem_of_getElem? (i := 8) rfl)) (fun _ h9 => h9) rfl dX9_areBeside_92 ?_
        refine lv_iconst (v := 0) hx hb dX9_areBeside_95 (by decide) ?_
        refine va_iald hx hb hK hP 0 1 rfl rfl (rg_in (n := 9) (rg_mono (rg_k (x := 0) (c := 0) (by decide)) (by decide) (by decide))) dX9_areBeside_96 ?_
        refine lv_topi (fun x_417 ex_417 => ?_)
        have hx_417 : rg (-1) (9) x_417 := by rw [ex_417]; exact rg_mono (hg23 _) (by decide) (by decide)
        refine lv_iload_n hx hb dX9_areBeside_97 rfl (lv_at hl 4 rfl) ?_
        refine lv_icmp_eq (tgt := 123) hx hb dX9_areBeside_98 (by decide) (fun c_418 => ?_) (fun c_418 => ?_)
        · skip
          have h_419 : rg (-1) (9) p1 := by have ha := hx_417; have hb_ := (rg_any p1); simp only [rg, fa_lt, fa_le, fa_eq] at ha hb_ c_418; simp only [rg]; omega
          refine lv_iconst (v := 1) hx hb dX9_areBeside_123 (by decide) ?_
          refine lv_goto (tgt := 128) hx hb dX9_areBeside_124 (by decide) ?_
          have hP9 := hP.sub (ws' := [(h0, .inr (9, [.ref h1, .ref h2, .int a0, .int a1, .int a2, .int a3, .int a4, .int a5, .int a6, .int a7, .long y0, .ref h3, .ref h4, .ref h5, .ref h6, .ref h7, .ref h8, .ref h9, .ref h10, .ref h11, .ref h12, .ref h13, .ref h14, .ref h15, .ref h16, .ref h17, .ref h18, .ref h19, .ref h20, .int a8, .int a9, .int a10, .int a11, .int a12, .ref h21, .ref h22, .ref h23, .int a13, .int a14, .int a15, .int a16, .int a17, .ref h24, .ref h25, .ref h26, .ref h27, .int a18, .int a19, .int a20, .int a21, .int a22, .int a23, .int a24, .ref h28, .ref h29, .ref h30, .int a25, .ref h31, .ref h32, .ref h33, .ref h34, .ref h35, .ref h36, .ref h37, .int a26, .int a27, .ref h38, .ref h39, .ref h40, .ref h41, .ref h42, .ref h43])), (h3, .inl (cI, 2, .inl g2)), (h13, .inl (cZ, 2, .inl g12)), (h24, .inl (cI, 9, .inl g23))]) [1, 2, 3, 0] rfl
          have hD9 := hD.sub (ws' := [(h0, .inr (9, [.ref h1, .ref h2, .int a0, .int a1, .int a2, .int a3, .int a4, .int a5, .int a6, .int a7, .long y0, .ref h3, .ref h4, .ref h5, .ref h6, .ref h7, .ref h8, .ref h9, .ref h10, .ref h11, .ref h12, .ref h13, .ref h14, .ref h15, .ref h16, .ref h17, .ref h18, .ref h19, .ref h20, .int a8, .int a9, .int a10, .int a11, .int a12, .ref h21, .ref h22, .ref h23, .int a13, .int a14, .int a15, .int a16, .int a17, .ref h24, .ref h25, .ref h26, .ref h27, .int a18, .int a19, .int a20, .int a21, .int a22, .int a23, .int a24, .ref h28, .ref h29, .ref h30, .int a25, .ref h31, .ref h32, .ref h33, .ref h34, .ref h35, .ref h36, .ref h37, .int a26, .int a27, .ref h38, .ref h39, .ref h40, .ref h41, .ref h42, .ref h43])), (h3, .inl (cI, 2, .inl g2)), (h13, .inl (cZ, 2, .inl g12)), (h24, .inl (cI, 9, .inl g23))]) [1, 2, 3, 0] (by decide) rfl
          exact W.zret (v := 1) hx hb hr (rfl) (fun t ht hW => ⟨⟨1, (), rfl, (rg_mono (rg_k (x := 1) (c := 1) (by decide)) (by decide) (by decide)), ⟨by rw [ht]; exact hP9, hD9⟩⟩, hS.F ht⟩) hS.2.2 dX9_areBeside_128
        · skip
          refine lv_aload_n hx hb dX9_areBeside_101 rfl (lv_at hl 2 rfl) ?_
          refine va_get (D := (dC, dI)) (ci := 9) (v := .ref h24) (C := RX9) (T := TX9) (N := 72) hx hb hts hinX9 hown hK hP 1 rfl rfl 42 (by decide) (hts (.fieldLink RX9 89 "MayRingsModel" "row" "[I") (List.mem_of_getElem? (i := 8) rfl)) (fun _ h9 => h9) rfl dX9_areBeside_102 ?_
          refine lv_iload_n hx hb dX9_areBeside_105 rfl (lv_at hl 1 rfl) ?_
          refine lv_iconst (v := 1) hx hb dX9_areBeside_106 (by decide) ?_
          refine lv_isub hx hb dX9_areBeside_107 ?_
          refine tp_v (.int x_408) (congrArg Value.int (ex_408.symm)) ?_
          refine va_iald hx hb hK hP 0 1 rfl rfl (rg_in (n := 9) (rg_mono hx_408 (by decide) (by decide))) dX9_areBeside_108 ?_
          refine tp_v (.int x_409) (congrArg Value.int (ex_409.symm)) ?_
          refine lv_iload_n hx hb dX9_areBeside_109 rfl (lv_at hl 4 rfl) ?_
          refine lv_icmp_ne (tgt := 127) hx hb dX9_areBeside_110 (by decide) (fun c_420 => ?_) (fun c_420 => ?_)
          · skip
            refine lv_iconst (v := 0) hx hb dX9_areBeside_127 (by decide) ?_
            have hP9 := hP.sub (ws' := [(h0, .inr (9, [.ref h1, .ref h2, .int a0, .int a1, .int a2, .int a3, .int a4, .int a5, .int a6, .int a7, .long y0, .ref h3, .ref h4, .ref h5, .ref h6, .ref h7, .ref h8, .ref h9, .ref h10, .ref h11, .ref h12, .ref h13, .ref h14, .ref h15, .ref h16, .ref h17, .ref h18, .ref h19, .ref h20, .int a8, .int a9, .int a10, .int a11, .int a12, .ref h21, .ref h22, .ref h23, .int a13, .int a14, .int a15, .int a16, .int a17, .ref h24, .ref h25, .ref h26, .ref h27, .int a18, .int a19, .int a20, .int a21, .int a22, .int a23, .int a24, .ref h28, .ref h29, .ref h30, .int a25, .ref h31, .ref h32, .ref h33, .ref h34, .ref h35, .ref h36, .ref h37, .int a26, .int a27, .ref h38, .ref h39, .ref h40, .ref h41, .ref h42, .ref h43])), (h3, .inl (cI, 2, .inl g2)), (h13, .inl (cZ, 2, .inl g12)), (h24, .inl (cI, 9, .inl g23))]) [1, 2, 3, 0] rfl
            have hD9 := hD.sub (ws' := [(h0, .inr (9, [.ref h1, .ref h2, .int a0, .int a1, .int a2, .int a3, .int a4, .int a5, .int a6, .int a7, .long y0, .ref h3, .ref h4, .ref h5, .ref h6, .ref h7, .ref h8, .ref h9, .ref h10, .ref h11, .ref h12, .ref h13, .ref h14, .ref h15, .ref h16, .ref h17, .ref h18, .ref h19, .ref h20, .int a8, .int a9, .int a10, .int a11, .int a12, .ref h21, .ref h22, .ref h23, .int a13, .int a14, .int a15, .int a16, .int a17, .ref h24, .ref h25, .ref h26, .ref h27, .int a18, .int a19, .int a20, .int a21, .int a22, .int a23, .int a24, .ref h28, .ref h29, .ref h30, .int a25, .ref h31, .ref h32, .ref h33, .ref h34, .ref h35, .ref h36, .ref h37, .int a26, .int a27, .ref h38, .ref h39, .ref h40, .ref h41, .ref h42, .ref h43])), (h3, .inl (cI, 2, .inl g2)), (h13, .inl (cZ, 2, .inl g12)), (h24, .inl (cI, 9, .inl g23))]) [1, 2, 3, 0] (by decide) rfl
            exact W.zret (v := 0) hx hb hr (rfl) (fun t ht hW => ⟨⟨0, (), rfl, (rg_mono (rg_k (x := 0) (c := 0) (by decide)) (by decide) (by decide)), ⟨by rw [ht]; exact hP9, hD9⟩⟩, hS.F ht⟩) hS.2.2 dX9_areBeside_128
          · skip
            have h_421 : rg (-1) (9) p1 := by have ha := hx_409; have hb_ := (rg_any p1); simp only [rg, fa_lt, fa_le, fa_eq] at ha hb_ c_420; simp only [rg]; omega
            refine lv_aload_n hx hb dX9_areBeside_113 rfl (lv_at hl 2 rfl) ?_
            refine va_get (D := (dC, dI)) (ci := 9) (v := .ref h24) (C := RX9) (T := TX9) (N := 72) hx hb hts hinX9 hown hK hP 1 rfl rfl 42 (by decide) (hts (.fieldLink RX9 89 "MayRingsModel" "row" "[I") (List.mem_of_getElem? (i := 8) rfl)) (fun _ h9 => h9) rfl dX9_areBeside_114 ?_
            refine lv_iconst (v := 0) hx hb dX9_areBeside_117 (by decide) ?_
            refine va_iald hx hb hK hP 0 1 rfl rfl (rg_in (n := 9) (rg_mono (rg_k (x := 0) (c := 0) (by decide)) (by decide) (by decide))) dX9_areBeside_118 ?_
            refine tp_v (.int x_417) (congrArg Value.int (ex_417.symm)) ?_
            refine lv_iload_n hx hb dX9_areBeside_119 rfl (lv_at hl 3 rfl) ?_
            refine lv_icmp_ne (tgt := 127) hx hb dX9_areBeside_120 (by decide) (fun c_422 => ?_) (fun c_422 => ?_)
            · skip
              refine lv_iconst (v := 0) hx hb dX9_areBeside_127 (by decide) ?_
              have hP9 := hP.sub (ws' := [(h0, .inr (9, [.ref h1, .ref h2, .int a0, .int a1, .int a2, .int a3, .int a4, .int a5, .int a6, .int a7, .long y0, .ref h3, .ref h4, .ref h5, .ref h6, .ref h7, .ref h8, .ref h9, .ref h10, .ref h11, .ref h12, .ref h13, .ref h14, .ref h15, .ref h16, .ref h17, .ref h18, .ref h19, .ref h20, .int a8, .int a9, .int a10, .int a11, .int a12, .ref h21, .ref h22, .ref h23, .int a13, .int a14, .int a15, .int a16, .int a17, .ref h24, .ref h25, .ref h26, .ref h27, .int a18, .int a19, .int a20, .int a21, .int a22, .int a23, .int a24, .ref h28, .ref h29, .ref h30, .int a25, .ref h31, .ref h32, .ref h33, .ref h34, .ref h35, .ref h36, .ref h37, .int a26, .int a27, .ref h38, .ref h39, .ref h40, .ref h41, .ref h42, .ref h43])), (h3, .inl (cI, 2, .inl g2)), (h13, .inl (cZ, 2, .inl g12)), (h24, .inl (cI, 9, .inl g23))]) [1, 2, 3, 0] rfl
              have hD9 := hD.sub (ws' := [(h0, .inr (9, [.ref h1, .ref h2, .int a0, .int a1, .int a2, .int a3, .int a4, .int a5, .int a6, .int a7, .long y0, .ref h3, .ref h4, .ref h5, .ref h6, .ref h7, .ref h8, .ref h9, .ref h10, .ref h11, .ref h12, .ref h13, .ref h14, .ref h15, .ref h16, .ref h17, .ref h18, .ref h19, .ref h20, .int a8, .int a9, .int a10, .int a11, .int a12, .ref h21, .ref h22, .ref h23, .int a13, .int a14, .int a15, .int a16, .int a17, .ref h24, .ref h25, .ref h26, .ref h27, .int a18, .int a19, .int a20, .int a21, .int a22, .int a23, .int a24, .ref h28, .ref h29, .ref h30, .int a25, .ref h31, .ref h32, .ref h33, .ref h34, .ref h35, .ref h36, .ref h37, .int a26, .int a27, .ref h38, .ref h39, .ref h40, .ref h41, .ref h42, .ref h43])), (h3, .inl (cI, 2, .inl g2)), (h13, .inl (cZ, 2, .inl g12)), (h24, .inl (cI, 9, .inl g23))]) [1, 2, 3, 0] (by decide) rfl
              exact W.zret (v := 0) hx hb hr (rfl) (fun t ht hW => ⟨⟨0, (), rfl, (rg_mono (rg_k (x := 0) (c := 0) (by decide)) (by decide) (by decide)), ⟨by rw [ht]; exact hP9, hD9⟩⟩, hS.F ht⟩) hS.2.2 dX9_areBeside_128
            · skip
              refine lv_iconst (v := 1) hx hb dX9_areBeside_123 (by decide) ?_
              refine lv_goto (tgt := 128) hx hb dX9_areBeside_124 (by decide) ?_
              have hP9 := hP.sub (ws' := [(h0, .inr (9, [.ref h1, .ref h2, .int a0, .int a1, .int a2, .int a3, .int a4, .int a5, .int a6, .int a7, .long y0, .ref h3, .ref h4, .ref h5, .ref h6, .ref h7, .ref h8, .ref h9, .ref h10, .ref h11, .ref h12, .ref h13, .ref h14, .ref h15, .ref h16, .ref h17, .ref h18, .ref h19, .ref h20, .int a8, .int a9, .int a10, .int a11, .int a12, .ref h21, .ref h22, .ref h23, .int a13, .int a14, .int a15, .int a16, .int a17, .ref h24, .ref h25, .ref h26, .ref h27, .int a18, .int a19, .int a20, .int a21, .int a22, .int a23, .int a24, .ref h28, .ref h29, .ref h30, .int a25, .ref h31, .ref h32, .ref h33, .ref h34, .ref h35, .ref h36, .ref h37, .int a26, .int a27, .ref h38, .ref h39, .ref h40, .ref h41, .ref h42, .ref h43])), (h3, .inl (cI, 2, .inl g2)), (h13, .inl (cZ, 2, .inl g12)), (h24, .inl (cI, 9, .inl g23))]) [1, 2, 3, 0] rfl
              have hD9 := hD.sub (ws' := [(h0, .inr (9, [.ref h1, .ref h2, .int a0, .int a1, .int a2, .int a3, .int a4, .int a5, .int a6, .int a7, .long y0, .ref h3, .ref h4, .ref h5, .ref h6, .ref h7, .ref h8, .ref h9, .ref h10, .ref h11, .ref h12, .ref h13, .ref h14, .ref h15, .ref h16, .ref h17, .ref h18, .ref h19, .ref h20, .int a8, .int a9, .int a10, .int a11, .int a12, .ref h21, .ref h22, .ref h23, .int a13, .int a14, .int a15, .int a16, .int a17, .ref h24, .ref h25, .ref h26, .ref h27, .int a18, .int a19, .int a20, .int a21, .int a22, .int a23, .int a24, .ref h28, .ref h29, .ref h30, .int a25, .ref h31, .ref h32, .ref h33, .ref h34, .ref h35, .ref h36, .ref h37, .int a26, .int a27, .ref h38, .ref h39, .ref h40, .ref h41, .ref h42, .ref h43])), (h3, .inl (cI, 2, .inl g2)), (h13, .inl (cZ, 2, .inl g12)), (h24, .inl (cI, 9, .inl g23))]) [1, 2, 3, 0] (by decide) rfl
              exact W.zret (v := 1) hx hb hr (rfl) (fun t ht hW => ⟨⟨1, (), rfl, (rg_mono (rg_k (x := 1) (c := 1) (by decide)) (by decide) (by decide)), ⟨by rw [ht]; exact hP9, hD9⟩⟩, hS.F ht⟩) hS.2.2 dX9_areBeside_128
  · skip
    have h_423 : rg (1) (8) x_396 := by have ha := hx_396; have hb_ := hr_1; simp only [rg, fa_lt, fa_le, fa_eq] at ha hb_ c_397; simp only [rg]; omega
    have h_424 : rg (0) (7) x_345 := by have ha := h_423; have hb_ := hx_345; simp only [rg] at ha hb_ ⊢; omega
    have h_425 : rg (2) (9) r_1 := by have ha := h_423; have hb_ := hr_1; have hc_ := c_397; simp only [rg, fa_lt, fa_le, fa_eq] at ha hb_ hc_; simp only [rg]; omega
    have h_426 : rg (2) (9) r_1 := by have ha := hx_396; have hb_ := hr_1; simp only [rg, fa_lt, fa_le, fa_eq] at ha hb_ c_397; simp only [rg]; omega
    refine lv_aload_n hx hb dX9_areBeside_16 rfl (lv_at hl 2 rfl) ?_
    refine va_get (D := (dC, dI)) (ci := 9) (v := .ref h24) (C := RX9) (T := TX9) (N := 72) hx hb hts hinX9 hown hK hP 2 rfl rfl 42 (by decide) (hts (.fieldLink RX9 89 "MayRingsModel" "row" "[I") (List.mem_of_getElem? (i := 8) rfl)) (fun _ h9 => h9) rfl dX9_areBeside_17 ?_
    refine lv_iload hx hb dX9_areBeside_20 (lv_at hl 0 rfl) ?_
    refine va_iald hx hb hK hP 1 1 rfl rfl (rg_in (n := 9) (rg_mono h_424 (by decide) (by decide))) dX9_areBeside_22 ?_
    refine lv_topi (fun x_427 ex_427 => ?_)
    have hx_427 : rg (-1) (9) x_427 := by rw [ex_427]; exact rg_mono (hg23 _) (by decide) (by decide)
    refine lv_iload_n hx hb dX9_areBeside_23 rfl (lv_at hl 3 rfl) ?_
    refine lv_icmp_ne (tgt := 40) hx hb dX9_areBeside_24 (by decide) (fun c_428 => ?_) (fun c_428 => ?_)
    · skip
      refine lv_aload_n hx hb dX9_areBeside_40 rfl (lv_at hl 2 rfl) ?_
      refine va_get (D := (dC, dI)) (ci := 9) (v := .ref h24) (C := RX9) (T := TX9) (N := 72) hx hb hts hinX9 hown hK hP 2 rfl rfl 42 (by decide) (hts (.fieldLink RX9 89 "MayRingsModel" "row" "[I") (List.mem_of_getElem? (i := 8) rfl)) (fun _ h9 => h9) rfl dX9_areBeside_41 ?_
      refine lv_iload hx hb dX9_areBeside_44 (lv_at hl 0 rfl) ?_
      refine va_iald hx hb hK hP 1 1 rfl rfl (rg_in (n := 9) (rg_mono h_424 (by decide) (by decide))) dX9_areBeside_46 ?_
      refine tp_v (.int x_427) (congrArg Value.int (ex_427.symm)) ?_
      refine lv_iload_n hx hb dX9_areBeside_47 rfl (lv_at hl 4 rfl) ?_
      refine lv_icmp_ne (tgt := 66) hx hb dX9_areBeside_48 (by decide) (fun c_429 => ?_) (fun c_429 => ?_)
      · skip
        obtain ⟨x_430, ex_430⟩ : ∃ y : Int32, y = x_345 + Int32.ofInt (1) := ⟨_, rfl⟩
        have hx_430 : rg (1) (8) x_430 := by rw [ex_430]; exact rg_mono (rg_add h_424 (rg_k (x := Int32.ofInt (1)) (c := 1) (by decide)) (by decide) (by decide)) (by decide) (by decide)
        have qx_430 : x_430.toInt = x_345.toInt + (1) := by rw [ex_430]; exact rg_addE h_424 (rg_k (x := Int32.ofInt (1)) (c := 1) (by decide)) (by decide) (by decide) (by decide)
        refine lv_iinc (v := x_430) (lv' := [(4, .int x_430), (3, .int r_1), (0, .ref h0), (1, .int p0), (2, .int p1)]) hx hb dX9_areBeside_66 hl (k := 0) rfl (ex_430.symm) (by decide) rfl (fun ls hl => ?_)
        clear ex_430
        refine lv_goto (tgt := 8) hx hb dX9_areBeside_69 (by decide) ?_
        exact ih_395 (x_430) H locs ls ⟨hP.sub (ws' := [(h13, .inl (cZ, 2, .inl g12)), (h24, .inl (cI, 9, .inl g23)), (h0, .inr (9, [.ref h1, .ref h2, .int a0, .int a1, .int a2, .int a3, .int a4, .int a5, .int a6, .int a7, .long y0, .ref h3, .ref h4, .ref h5, .ref h6, .ref h7, .ref h8, .ref h9, .ref h10, .ref h11, .ref h12, .ref h13, .ref h14, .ref h15, .ref h16, .ref h17, .ref h18, .ref h19, .ref h20, .int a8, .int a9, .int a10, .int a11, .int a12, .ref h21, .ref h22, .ref h23, .int a13, .int a14, .int a15, .int a16, .int a17, .ref h24, .ref h25, .ref h26, .ref h27, .int a18, .int a19, .int a20, .int a21, .int a22, .int a23, .int a24, .ref h28, .ref h29, .ref h30, .int a25, .ref h31, .ref h32, .ref h33, .ref h34, .ref h35, .ref h36, .ref h37, .int a26, .int a27, .ref h38, .ref h39, .ref h40, .ref h41, .ref h42, .ref h43])), (h3, .inl (cI, 2, .inl g2))]) [0, 1, 2, 3] rfl, hD.sub (ws' := [(h13, .inl (cZ, 2, .inl g12)), (h24, .inl (cI, 9, .inl g23)), (h0, .inr (9, [.ref h1, .ref h2, .int a0, .int a1, .int a2, .int a3, .int a4, .int a5, .int a6, .int a7, .long y0, .ref h3, .ref h4, .ref h5, .ref h6, .ref h7, .ref h8, .ref h9, .ref h10, .ref h11, .ref h12, .ref h13, .ref h14, .ref h15, .ref h16, .ref h17, .ref h18, .ref h19, .ref h20, .int a8, .int a9, .int a10, .int a11, .int a12, .ref h21, .ref h22, .ref h23, .int a13, .int a14, .int a15, .int a16, .int a17, .ref h24, .ref h25, .ref h26, .ref h27, .int a18, .int a19, .int a20, .int a21, .int a22, .int a23, .int a24, .ref h28, .ref h29, .ref h30, .int a25, .ref h31, .ref h32, .ref h33, .ref h34, .ref h35, .ref h36, .ref h37, .int a26, .int a27, .ref h38, .ref h39, .ref h40, .ref h41, .ref h42, .ref h43])), (h3, .inl (cI, 2, .inl g2))]) [0, 1, 2, 3] (by decide) rfl, hS, lv_sub hl [0, 1, 2, 3, 4] rfl, (rg_mono hx_430 (by decide) (by decide))⟩ (by show ((8) - x_430.toInt).toNat < ((8) - x_345.toInt).toNat; have ha := h_424; simp only [rg] at ha; omega)
      · skip
        have h_431 : rg (-1) (9) p1 := by have ha := hx_427; have hb_ := (rg_any p1); simp only [rg, fa_lt, fa_le, fa_eq] at ha hb_ c_429; simp only [rg]; omega
        refine lv_aload_n hx hb dX9_areBeside_51 rfl (lv_at hl 2 rfl) ?_
        refine va_get (D := (dC, dI)) (ci := 9) (v := .ref h24) (C := RX9) (T := TX9) (N := 72) hx hb hts hinX9 hown hK hP 2 rfl rfl 42 (by decide) (hts (.fieldLink RX9 89 "MayRingsModel" "row" "[I") (List.mem_of_getElem? (i := 8) rfl)) (fun _ h9 => h9) rfl dX9_areBeside_52 ?_
        refine lv_iload hx hb dX9_areBeside_55 (lv_at hl 0 rfl) ?_
        refine lv_iconst (v := 1) hx hb dX9_areBeside_57 (by decide) ?_
        refine lv_iadd hx hb dX9_areBeside_58 ?_
        refine tp_v (.int x_396) (congrArg Value.int (ex_396.symm)) ?_
        refine va_iald hx hb hK hP 1 1 rfl rfl (rg_in (n := 9) (rg_mono h_423 (by decide) (by decide))) dX9_areBeside_59 ?_
        refine lv_topi (fun x_432 ex_432 => ?_)
        have hx_432 : rg (-1) (9) x_432 := by rw [ex_432]; exact rg_mono (hg23 _) (by decide) (by decide)
        refine lv_iload_n hx hb dX9_areBeside_60 rfl (lv_at hl 3 rfl) ?_
        refine lv_icmp_ne (tgt := 66) hx hb dX9_areBeside_61 (by decide) (fun c_433 => ?_) (fun c_433 => ?_)
        · skip
          obtain ⟨x_434, ex_434⟩ : ∃ y : Int32, y = x_345 + Int32.ofInt (1) := ⟨_, rfl⟩
          have hx_434 : rg (1) (8) x_434 := by rw [ex_434]; exact rg_mono (rg_add h_424 (rg_k (x := Int32.ofInt (1)) (c := 1) (by decide)) (by decide) (by decide)) (by decide) (by decide)
          have qx_434 : x_434.toInt = x_345.toInt + (1) := by rw [ex_434]; exact rg_addE h_424 (rg_k (x := Int32.ofInt (1)) (c := 1) (by decide)) (by decide) (by decide) (by decide)
          refine lv_iinc (v := x_434) (lv' := [(4, .int x_434), (3, .int r_1), (0, .ref h0), (1, .int p0), (2, .int p1)]) hx hb dX9_areBeside_66 hl (k := 0) rfl (ex_434.symm) (by decide) rfl (fun ls hl => ?_)
          clear ex_434
          refine lv_goto (tgt := 8) hx hb dX9_areBeside_69 (by decide) ?_
          exact ih_395 (x_434) H locs ls ⟨hP.sub (ws' := [(h13, .inl (cZ, 2, .inl g12)), (h24, .inl (cI, 9, .inl g23)), (h0, .inr (9, [.ref h1, .ref h2, .int a0, .int a1, .int a2, .int a3, .int a4, .int a5, .int a6, .int a7, .long y0, .ref h3, .ref h4, .ref h5, .ref h6, .ref h7, .ref h8, .ref h9, .ref h10, .ref h11, .ref h12, .ref h13, .ref h14, .ref h15, .ref h16, .ref h17, .ref h18, .ref h19, .ref h20, .int a8, .int a9, .int a10, .int a11, .int a12, .ref h21, .ref h22, .ref h23, .int a13, .int a14, .int a15, .int a16, .int a17, .ref h24, .ref h25, .ref h26, .ref h27, .int a18, .int a19, .int a20, .int a21, .int a22, .int a23, .int a24, .ref h28, .ref h29, .ref h30, .int a25, .ref h31, .ref h32, .ref h33, .ref h34, .ref h35, .ref h36, .ref h37, .int a26, .int a27, .ref h38, .ref h39, .ref h40, .ref h41, .ref h42, .ref h43])), (h3, .inl (cI, 2, .inl g2))]) [0, 1, 2, 3] rfl, hD.sub (ws' := [(h13, .inl (cZ, 2, .inl g12)), (h24, .inl (cI, 9, .inl g23)), (h0, .inr (9, [.ref h1, .ref h2, .int a0, .int a1, .int a2, .int a3, .int a4, .int a5, .int a6, .int a7, .long y0, .ref h3, .ref h4, .ref h5, .ref h6, .ref h7, .ref h8, .ref h9, .ref h10, .ref h11, .ref h12, .ref h13, .ref h14, .ref h15, .ref h16, .ref h17, .ref h18, .ref h19, .ref h20, .int a8, .int a9, .int a10, .int a11, .int a12, .ref h21, .ref h22, .ref h23, .int a13, .int a14, .int a15, .int a16, .int a17, .ref h24, .ref h25, .ref h26, .ref h27, .int a18, .int a19, .int a20, .int a21, .int a22, .int a23, .int a24, .ref h28, .ref h29, .ref h30, .int a25, .ref h31, .ref h32, .ref h33, .ref h34, .ref h35, .ref h36, .ref h37, .int a26, .int a27, .ref h38, .ref h39, .ref h40, .ref h41, .ref h42, .ref h43])), (h3, .inl (cI, 2, .inl g2))]) [0, 1, 2, 3] (by decide) rfl, hS, lv_sub hl [0, 1, 2, 3, 4] rfl, (rg_mono hx_434 (by decide) (by decide))⟩ (by show ((8) - x_434.toInt).toNat < ((8) - x_345.toInt).toNat; have ha := h_424; simp only [rg] at ha; omega)
        · skip
          have h_435 : rg (-1) (9) p0 := by have ha := hx_432; have hb_ := (rg_any p0); simp only [rg, fa_lt, fa_le, fa_eq] at ha hb_ c_433; simp only [rg]; omega
          refine lv_iconst (v := 1) hx hb dX9_areBeside_64 (by decide) ?_
          have hP9 := hP.sub (ws' := [(h0, .inr (9, [.ref h1, .ref h2, .int a0, .int a1, .int a2, .int a3, .int a4, .int a5, .int a6, .int a7, .long y0, .ref h3, .ref h4, .ref h5, .ref h6, .ref h7, .ref h8, .ref h9, .ref h10, .ref h11, .ref h12, .ref h13, .ref h14, .ref h15, .ref h16, .ref h17, .ref h18, .ref h19, .ref h20, .int a8, .int a9, .int a10, .int a11, .int a12, .ref h21, .ref h22, .ref h23, .int a13, .int a14, .int a15, .int a16, .int a17, .ref h24, .ref h25, .ref h26, .ref h27, .int a18, .int a19, .int a20, .int a21, .int a22, .int a23, .int a24, .ref h28, .ref h29, .ref h30, .int a25, .ref h31, .ref h32, .ref h33, .ref h34, .ref h35, .ref h36, .ref h37, .int a26, .int a27, .ref h38, .ref h39, .ref h40, .ref h41, .ref h42, .ref h43])), (h3, .inl (cI, 2, .inl g2)), (h13, .inl (cZ, 2, .inl g12)), (h24, .inl (cI, 9, .inl g23))]) [2, 3, 0, 1] rfl
          have hD9 := hD.sub (ws' := [(h0, .inr (9, [.ref h1, .ref h2, .int a0, .int a1, .int a2, .int a3, .int a4, .int a5, .int a6, .int a7, .long y0, .ref h3, .ref h4, .ref h5, .ref h6, .ref h7, .ref h8, .ref h9, .ref h10, .ref h11, .ref h12, .ref h13, .ref h14, .ref h15, .ref h16, .ref h17, .ref h18, .ref h19, .ref h20, .int a8, .int a9, .int a10, .int a11, .int a12, .ref h21, .ref h22, .ref h23, .int a13, .int a14, .int a15, .int a16, .int a17, .ref h24, .ref h25, .ref h26, .ref h27, .int a18, .int a19, .int a20, .int a21, .int a22, .int a23, .int a24, .ref h28, .ref h29, .ref h30, .int a25, .ref h31, .ref h32, .ref h33, .ref h34, .ref h35, .ref h36, .ref h37, .int a26, .int a27, .ref h38, .ref h39, .ref h40, .ref h41, .ref h42, .ref h43])), (h3, .inl (cI, 2, .inl g2)), (h13, .inl (cZ, 2, .inl g12)), (h24, .inl (cI, 9, .inl g23))]) [2, 3, 0, 1] (by decide) rfl
          exact W.zret (v := 1) hx hb hr (rfl) (fun t ht hW => ⟨⟨1, (), rfl, (rg_mono (rg_k (x := 1) (c := 1) (by decide)) (by decide) (by decide)), ⟨by rw [ht]; exact hP9, hD9⟩⟩, hS.F ht⟩) hS.2.2 dX9_areBeside_65
    · skip
      have h_436 : rg (-1) (9) p0 := by have ha := hx_427; have hb_ := (rg_any p0); simp only [rg, fa_lt, fa_le, fa_eq] at ha hb_ c_428; simp only [rg]; omega
      refine lv_aload_n hx hb dX9_areBeside_27 rfl (lv_at hl 2 rfl) ?_
      refine va_get (D := (dC, dI)) (ci := 9) (v := .ref h24) (C := RX9) (T := TX9) (N := 72) hx hb hts hinX9 hown hK hP 2 rfl rfl 42 (by decide) (hts (.fieldLink RX9 89 "MayRingsModel" "row" "[I") (List.mem_of_getElem? (i := 8) rfl)) (fun _ h9 => h9) rfl dX9_areBeside_28 ?_
      refine lv_iload hx hb dX9_areBeside_31 (lv_at hl 0 rfl) ?_
      refine lv_iconst (v := 1) hx hb dX9_areBeside_33 (by decide) ?_
      refine lv_iadd hx hb dX9_areBeside_34 ?_
      refine tp_v (.int x_396) (congrArg Value.int (ex_396.symm)) ?_
      refine va_iald hx hb hK hP 1 1 rfl rfl (rg_in (n := 9) (rg_mono h_423 (by decide) (by decide))) dX9_areBeside_35 ?_
      refine lv_topi (fun x_437 ex_437 => ?_)
      have hx_437 : rg (-1) (9) x_437 := by rw [ex_437]; exact rg_mono (hg23 _) (by decide) (by decide)
      refine lv_iload_n hx hb dX9_areBeside_36 rfl (lv_at hl 4 rfl) ?_
      refine lv_icmp_eq (tgt := 64) hx hb dX9_areBeside_37 (by decide) (fun c_438 => ?_) (fun c_438 => ?_)
      · skip
        have h_439 : rg (-1) (9) p1 := by have ha := hx_437; have hb_ := (rg_any p1); simp only [rg, fa_lt, fa_le, fa_eq] at ha hb_ c_438; simp only [rg]; omega
        refine lv_iconst (v := 1) hx hb dX9_areBeside_64 (by decide) ?_
        have hP9 := hP.sub (ws' := [(h0, .inr (9, [.ref h1, .ref h2, .int a0, .int a1, .int a2, .int a3, .int a4, .int a5, .int a6, .int a7, .long y0, .ref h3, .ref h4, .ref h5, .ref h6, .ref h7, .ref h8, .ref h9, .ref h10, .ref h11, .ref h12, .ref h13, .ref h14, .ref h15, .ref h16, .ref h17, .ref h18, .ref h19, .ref h20, .int a8, .int a9, .int a10, .int a11, .int a12, .ref h21, .ref h22, .ref h23, .int a13, .int a14, .int a15, .int a16, .int a17, .ref h24, .ref h25, .ref h26, .ref h27, .int a18, .int a19, .int a20, .int a21, .int a22, .int a23, .int a24, .ref h28, .ref h29, .ref h30, .int a25, .ref h31, .ref h32, .ref h33, .ref h34, .ref h35, .ref h36, .ref h37, .int a26, .int a27, .ref h38, .ref h39, .ref h40, .ref h41, .ref h42, .ref h43])), (h3, .inl (cI, 2, .inl g2)), (h13, .inl (cZ, 2, .inl g12)), (h24, .inl (cI, 9, .inl g23))]) [2, 3, 0, 1] rfl
        have hD9 := hD.sub (ws' := [(h0, .inr (9, [.ref h1, .ref h2, .int a0, .int a1, .int a2, .int a3, .int a4, .int a5, .int a6, .int a7, .long y0, .ref h3, .ref h4, .ref h5, .ref h6, .ref h7, .ref h8, .ref h9, .ref h10, .ref h11, .ref h12, .ref h13, .ref h14, .ref h15, .ref h16, .ref h17, .ref h18, .ref h19, .ref h20, .int a8, .int a9, .int a10, .int a11, .int a12, .ref h21, .ref h22, .ref h23, .int a13, .int a14, .int a15, .int a16, .int a17, .ref h24, .ref h25, .ref h26, .ref h27, .int a18, .int a19, .int a20, .int a21, .int a22, .int a23, .int a24, .ref h28, .ref h29, .ref h30, .int a25, .ref h31, .ref h32, .ref h33, .ref h34, .ref h35, .ref h36, .ref h37, .int a26, .int a27, .ref h38, .ref h39, .ref h40, .ref h41, .ref h42, .ref h43])), (h3, .inl (cI, 2, .inl g2)), (h13, .inl (cZ, 2, .inl g12)), (h24, .inl (cI, 9, .inl g23))]) [2, 3, 0, 1] (by decide) rfl
        exact W.zret (v := 1) hx hb hr (rfl) (fun t ht hW => ⟨⟨1, (), rfl, (rg_mono (rg_k (x := 1) (c := 1) (by decide)) (by decide) (by decide)), ⟨by rw [ht]; exact hP9, hD9⟩⟩, hS.F ht⟩) hS.2.2 dX9_areBeside_65
      · skip
        refine lv_aload_n hx hb dX9_areBeside_40 rfl (lv_at hl 2 rfl) ?_
        refine va_get (D := (dC, dI)) (ci := 9) (v := .ref h24) (C := RX9) (T := TX9) (N := 72) hx hb hts hinX9 hown hK hP 2 rfl rfl 42 (by decide) (hts (.fieldLink RX9 89 "MayRingsModel" "row" "[I") (List.mem_of_getElem? (i := 8) rfl)) (fun _ h9 => h9) rfl dX9_areBeside_41 ?_
        refine lv_iload hx hb dX9_areBeside_44 (lv_at hl 0 rfl) ?_
        refine va_iald hx hb hK hP 1 1 rfl rfl (rg_in (n := 9) (rg_mono h_424 (by decide) (by decide))) dX9_areBeside_46 ?_
        refine tp_v (.int x_427) (congrArg Value.int (ex_427.symm)) ?_
        refine lv_iload_n hx hb dX9_areBeside_47 rfl (lv_at hl 4 rfl) ?_
        refine lv_icmp_ne (tgt := 66) hx hb dX9_areBeside_48 (by decide) (fun c_440 => ?_) (fun c_440 => ?_)
        · skip
          obtain ⟨x_441, ex_441⟩ : ∃ y : Int32, y = x_345 + Int32.ofInt (1) := ⟨_, rfl⟩
          have hx_441 : rg (1) (8) x_441 := by rw [ex_441]; exact rg_mono (rg_add h_424 (rg_k (x := Int32.ofInt (1)) (c := 1) (by decide)) (by decide) (by decide)) (by decide) (by decide)
          have qx_441 : x_441.toInt = x_345.toInt + (1) := by rw [ex_441]; exact rg_addE h_424 (rg_k (x := Int32.ofInt (1)) (c := 1) (by decide)) (by decide) (by decide) (by decide)
          refine lv_iinc (v := x_441) (lv' := [(4, .int x_441), (3, .int r_1), (0, .ref h0), (1, .int p0), (2, .int p1)]) hx hb dX9_areBeside_66 hl (k := 0) rfl (ex_441.symm) (by decide) rfl (fun ls hl => ?_)
          clear ex_441
          refine lv_goto (tgt := 8) hx hb dX9_areBeside_69 (by decide) ?_
          exact ih_395 (x_441) H locs ls ⟨hP.sub (ws' := [(h13, .inl (cZ, 2, .inl g12)), (h24, .inl (cI, 9, .inl g23)), (h0, .inr (9, [.ref h1, .ref h2, .int a0, .int a1, .int a2, .int a3, .int a4, .int a5, .int a6, .int a7, .long y0, .ref h3, .ref h4, .ref h5, .ref h6, .ref h7, .ref h8, .ref h9, .ref h10, .ref h11, .ref h12, .ref h13, .ref h14, .ref h15, .ref h16, .ref h17, .ref h18, .ref h19, .ref h20, .int a8, .int a9, .int a10, .int a11, .int a12, .ref h21, .ref h22, .ref h23, .int a13, .int a14, .int a15, .int a16, .int a17, .ref h24, .ref h25, .ref h26, .ref h27, .int a18, .int a19, .int a20, .int a21, .int a22, .int a23, .int a24, .ref h28, .ref h29, .ref h30, .int a25, .ref h31, .ref h32, .ref h33, .ref h34, .ref h35, .ref h36, .ref h37, .int a26, .int a27, .ref h38, .ref h39, .ref h40, .ref h41, .ref h42, .ref h43])), (h3, .inl (cI, 2, .inl g2))]) [0, 1, 2, 3] rfl, hD.sub (ws' := [(h13, .inl (cZ, 2, .inl g12)), (h24, .inl (cI, 9, .inl g23)), (h0, .inr (9, [.ref h1, .ref h2, .int a0, .int a1, .int a2, .int a3, .int a4, .int a5, .int a6, .int a7, .long y0, .ref h3, .ref h4, .ref h5, .ref h6, .ref h7, .ref h8, .ref h9, .ref h10, .ref h11, .ref h12, .ref h13, .ref h14, .ref h15, .ref h16, .ref h17, .ref h18, .ref h19, .ref h20, .int a8, .int a9, .int a10, .int a11, .int a12, .ref h21, .ref h22, .ref h23, .int a13, .int a14, .int a15, .int a16, .int a17, .ref h24, .ref h25, .ref h26, .ref h27, .int a18, .int a19, .int a20, .int a21, .int a22, .int a23, .int a24, .ref h28, .ref h29, .ref h30, .int a25, .ref h31, .ref h32, .ref h33, .ref h34, .ref h35, .ref h36, .ref h37, .int a26, .int a27, .ref h38, .ref h39, .ref h40, .ref h41, .ref h42, .ref h43])), (h3, .inl (cI, 2, .inl g2))]) [0, 1, 2, 3] (by decide) rfl, hS, lv_sub hl [0, 1, 2, 3, 4] rfl, (rg_mono hx_441 (by decide) (by decide))⟩ (by show ((8) - x_441.toInt).toNat < ((8) - x_345.toInt).toNat; have ha := h_424; simp only [rg] at ha; omega)
        · skip
          have h_442 : rg (-1) (9) p1 := by have ha := hx_427; have hb_ := (rg_any p1); simp only [rg, fa_lt, fa_le, fa_eq] at ha hb_ c_440; simp only [rg]; omega
          refine lv_aload_n hx hb dX9_areBeside_51 rfl (lv_at hl 2 rfl) ?_
          refine va_get (D := (dC, dI)) (ci := 9) (v := .ref h24) (C := RX9) (T := TX9) (N := 72) hx hb hts hinX9 hown hK hP 2 rfl rfl 42 (by decide) (hts (.fieldLink RX9 89 "MayRingsModel" "row" "[I") (List.mem_of_getElem? (i := 8) rfl)) (fun _ h9 => h9) rfl dX9_areBeside_52 ?_
          refine lv_iload hx hb dX9_areBeside_55 (lv_at hl 0 rfl) ?_
          refine lv_iconst (v := 1) hx hb dX9_areBeside_57 (by decide) ?_
          refine lv_iadd hx hb dX9_areBeside_58 ?_
          refine tp_v (.int x_396) (congrArg Value.int (ex_396.symm)) ?_
          refine va_iald hx hb hK hP 1 1 rfl rfl (rg_in (n := 9) (rg_mono h_423 (by decide) (by decide))) dX9_areBeside_59 ?_
          refine tp_v (.int x_437) (congrArg Value.int (ex_437.symm)) ?_
          refine lv_iload_n hx hb dX9_areBeside_60 rfl (lv_at hl 3 rfl) ?_
          refine lv_icmp_ne (tgt := 66) hx hb dX9_areBeside_61 (by decide) (fun c_443 => ?_) (fun c_443 => ?_)
          · skip
            obtain ⟨x_444, ex_444⟩ : ∃ y : Int32, y = x_345 + Int32.ofInt (1) := ⟨_, rfl⟩
            have hx_444 : rg (1) (8) x_444 := by rw [ex_444]; exact rg_mono (rg_add h_424 (rg_k (x := Int32.ofInt (1)) (c := 1) (by decide)) (by decide) (by decide)) (by decide) (by decide)
            have qx_444 : x_444.toInt = x_345.toInt + (1) := by rw [ex_444]; exact rg_addE h_424 (rg_k (x := Int32.ofInt (1)) (c := 1) (by decide)) (by decide) (by decide) (by decide)
            refine lv_iinc (v := x_444) (lv' := [(4, .int x_444), (3, .int r_1), (0, .ref h0), (1, .int p0), (2, .int p1)]) hx hb dX9_areBeside_66 hl (k := 0) rfl (ex_444.symm) (by decide) rfl (fun ls hl => ?_)
            clear ex_444
            refine lv_goto (tgt := 8) hx hb dX9_areBeside_69 (by decide) ?_
            exact ih_395 (x_444) H locs ls ⟨hP.sub (ws' := [(h13, .inl (cZ, 2, .inl g12)), (h24, .inl (cI, 9, .inl g23)), (h0, .inr (9, [.ref h1, .ref h2, .int a0, .int a1, .int a2, .int a3, .int a4, .int a5, .int a6, .int a7, .long y0, .ref h3, .ref h4, .ref h5, .ref h6, .ref h7, .ref h8, .ref h9, .ref h10, .ref h11, .ref h12, .ref h13, .ref h14, .ref h15, .ref h16, .ref h17, .ref h18, .ref h19, .ref h20, .int a8, .int a9, .int a10, .int a11, .int a12, .ref h21, .ref h22, .ref h23, .int a13, .int a14, .int a15, .int a16, .int a17, .ref h24, .ref h25, .ref h26, .ref h27, .int a18, .int a19, .int a20, .int a21, .int a22, .int a23, .int a24, .ref h28, .ref h29, .ref h30, .int a25, .ref h31, .ref h32, .ref h33, .ref h34, .ref h35, .ref h36, .ref h37, .int a26, .int a27, .ref h38, .ref h39, .ref h40, .ref h41, .ref h42, .ref h43])), (h3, .inl (cI, 2, .inl g2))]) [0, 1, 2, 3] rfl, hD.sub (ws' := [(h13, .inl (cZ, 2, .inl g12)), (h24, .inl (cI, 9, .inl g23)), (h0, .inr (9, [.ref h1, .ref h2, .int a0, .int a1, .int a2, .int a3, .int a4, .int a5, .int a6, .int a7, .long y0, .ref h3, .ref h4, .ref h5, .ref h6, .ref h7, .ref h8, .ref h9, .ref h10, .ref h11, .ref h12, .ref h13, .ref h14, .ref h15, .ref h16, .ref h17, .ref h18, .ref h19, .ref h20, .int a8, .int a9, .int a10, .int a11, .int a12, .ref h21, .ref h22, .ref h23, .int a13, .int a14, .int a15, .int a16, .int a17, .ref h24, .ref h25, .ref h26, .ref h27, .int a18, .int a19, .int a20, .int a21, .int a22, .int a23, .int a24, .ref h28, .ref h29, .ref h30, .int a25, .ref h31, .ref h32, .ref h33, .ref h34, .ref h35, .ref h36, .ref h37, .int a26, .int a27, .ref h38, .ref h39, .ref h40, .ref h41, .ref h42, .ref h43])), (h3, .inl (cI, 2, .inl g2))]) [0, 1, 2, 3] (by decide) rfl, hS, lv_sub hl [0, 1, 2, 3, 4] rfl, (rg_mono hx_444 (by decide) (by decide))⟩ (by show ((8) - x_444.toInt).toNat < ((8) - x_345.toInt).toNat; have ha := h_424; simp only [rg] at ha; omega)
          · skip
            refine lv_iconst (v := 1) hx hb dX9_areBeside_64 (by decide) ?_
            have hP9 := hP.sub (ws' := [(h0, .inr (9, [.ref h1, .ref h2, .int a0, .int a1, .int a2, .int a3, .int a4, .int a5, .int a6, .int a7, .long y0, .ref h3, .ref h4, .ref h5, .ref h6, .ref h7, .ref h8, .ref h9, .ref h10, .ref h11, .ref h12, .ref h13, .ref h14, .ref h15, .ref h16, .ref h17, .ref h18, .ref h19, .ref h20, .int a8, .int a9, .int a10, .int a11, .int a12, .ref h21, .ref h22, .ref h23, .int a13, .int a14, .int a15, .int a16, .int a17, .ref h24, .ref h25, .ref h26, .ref h27, .int a18, .int a19, .int a20, .int a21, .int a22, .int a23, .int a24, .ref h28, .ref h29, .ref h30, .int a25, .ref h31, .ref h32, .ref h33, .ref h34, .ref h35, .ref h36, .ref h37, .int a26, .int a27, .ref h38, .ref h39, .ref h40, .ref h41, .ref h42, .ref h43])), (h3, .inl (cI, 2, .inl g2)), (h13, .inl (cZ, 2, .inl g12)), (h24, .inl (cI, 9, .inl g23))]) [2, 3, 0, 1] rfl
            have hD9 := hD.sub (ws' := [(h0, .inr (9, [.ref h1, .ref h2, .int a0, .int a1, .int a2, .int a3, .int a4, .int a5, .int a6, .int a7, .long y0, .ref h3, .ref h4, .ref h5, .ref h6, .ref h7, .ref h8, .ref h9, .ref h10, .ref h11, .ref h12, .ref h13, .ref h14, .ref h15, .ref h16, .ref h17, .ref h18, .ref h19, .ref h20, .int a8, .int a9, .int a10, .int a11, .int a12, .ref h21, .ref h22, .ref h23, .int a13, .int a14, .int a15, .int a16, .int a17, .ref h24, .ref h25, .ref h26, .ref h27, .int a18, .int a19, .int a20, .int a21, .int a22, .int a23, .int a24, .ref h28, .ref h29, .ref h30, .int a25, .ref h31, .ref h32, .ref h33, .ref h34, .ref h35, .ref h36, .ref h37, .int a26, .int a27, .ref h38, .ref h39, .ref h40, .ref h41, .ref h42, .ref h43])), (h3, .inl (cI, 2, .inl g2)), (h13, .inl (cZ, 2, .inl g12)), (h24, .inl (cI, 9, .inl g23))]) [2, 3, 0, 1] (by decide) rfl
            exact W.zret (v := 1) hx hb hr (rfl) (fun t ht hW => ⟨⟨1, (), rfl, (rg_mono (rg_k (x := 1) (c := 1) (by decide)) (by decide) (by decide)), ⟨by rw [ht]; exact hP9, hD9⟩⟩, hS.F ht⟩) hS.2.2 dX9_areBeside_65
def v_s_X9_isLetter : List Cond := Cond.code yX9_isLetter cX9_isLetter 1 (some .boolean) :: ([] ++ ([]))
theorem k_s_X9_isLetter : GoodIn lw_tbl v_s_X9_isLetter := gd_c (List.mem_of_getElem? (i := 1466) (by decide +kernel)) rfl (goodIn_app (gd_nil) (gd_nil))
set_option maxHeartbeats 2000000 in
set_option maxRecDepth 100000 in
theorem c_s_X9_isLetter (l : Launch) (dC : Nat → ClassId) (dI : Nat → Nat → Nat) (cB cI cJ cZ cP : ClassId) (p0 : Int32) (sz : Nat) : Met l yX9_isLetter v_s_X9_isLetter ({ frames := 0, cells := 0, slots := 0, locals := 0 }) (va_Pc [.int p0] (fun U => U.heap.size = sz ∧ va_P (dC, dI) vwCl [] U.heap ∧ va_K (dC, dI) vwCl (ty5 cB cI cJ cZ cP) U ∧ va_D (fun _ => True) [])) (va_Qi (fun (r : Int32) (u9 : Int32) => u9 = r ∧ rg (0) (1) r ∧ (rg (1) (1) r → rg (97) (122) p0)) (fun u9 t => (u9 = ltF p0) ∧ va_P (dC, dI) vwCl [] t.heap ∧ va_D (va_A [] sz) []) (va_A [] sz)) 0 0 (va_A [] sz) := by
  refine Met.ofW (cc := cX9_isLetter) (maxL := 1) (ret := (some .boolean)) (by decide) rfl ?_
  intro p e s m args below meth c s₁ B hml hv
  obtain ⟨rfl, hsz, hP, hK, hD0⟩ := hv
  have hx := B.exec
  have hb := B.bytes
  have hr := B.returns
  have hts := atoms_spec (ws := v_s_X9_isLetter) B.pre
  have hown : s.vm.findClass RX9 = some m.cls := findClass_of_methodNamed B.named
  have hlocks := B.notSynchronized
  subst hsz
  have hD := hD0.self (sz := s.heap.size)
  generalize hAe : va_A [] s.heap.size = A at hD ⊢
  have hA : ∀ q : Nat, s.heap.size ≤ q → A q := fun q h => by rw [← hAe]; exact Or.inr h
  have hP : va_P (dC, dI) vwCl [] s.heap := hP
  have hl := lv_entry ([.int p0]) (n := 1) (Nat.le_of_ble_eq_true rfl)
  rw [lg_entry_eq]
  generalize (lg_sl ([.int p0]) ++ List.replicate (1 - (lg_sl ([.int p0])).length) Slot.unset).toArray = ls at hl ⊢
  have hl : lv_has ls 1 [(0, .int p0)] := hl
  refine W_gen (A := A) hP (fun H locs hP hS => ?_)
  refine lv_iload_n hx hb dX9_isLetter_0 rfl (lv_at hl 0 rfl) ?_
  refine lv_bipush (v := 97) hx hb dX9_isLetter_1 (by decide) ?_
  refine lv_icmp_lt (tgt := 16) hx hb dX9_isLetter_3 (by decide) (fun c_1 => ?_) (fun c_1 => ?_)
  · skip
    have h_2 : rg (-2147483648) (96) p0 := by have ha := (rg_any p0); have hb_ := (rg_k (x := 97) (c := 97) (by decide)); simp only [rg, fa_lt, fa_le, fa_eq, (by decide : (97 : Int32).toInt = 97)] at ha hb_ c_1; simp only [rg]; omega
    refine lv_iconst (v := 0) hx hb dX9_isLetter_16 (by decide) ?_
    have hP9 := hP.sub (ws' := []) [] rfl
    have hD9 := hD.sub (ws' := []) [] (by decide) rfl
    exact W.zret (v := 0) hx hb hr (rfl) (fun t ht hW => ⟨⟨0, 0, rfl, ⟨rfl, ⟨(rg_mono (rg_k (x := 0) (c := 0) (by decide)) (by decide) (by decide)), fun hq => (rg_off (rg_k (x := 0) (c := 0) (by decide)) hq (by decide)).elim⟩⟩, ⟨(show (0 : Int32) = ltF p0 from lt_n h_2 (by decide)), by rw [ht]; exact hP9, hD9⟩⟩, hS.F ht⟩) hS.2.2 dX9_isLetter_17
  · skip
    have h_3 : rg (97) (2147483647) p0 := by have ha := (rg_any p0); have hb_ := (rg_k (x := 97) (c := 97) (by decide)); simp only [rg, fa_lt, fa_le, fa_eq, (by decide : (97 : Int32).toInt = 97)] at ha hb_ c_1; simp only [rg]; omega
    refine lv_iload_n hx hb dX9_isLetter_6 rfl (lv_at hl 0 rfl) ?_
    refine lv_bipush (v := 122) hx hb dX9_isLetter_7 (by decide) ?_
    refine lv_icmp_gt (tgt := 16) hx hb dX9_isLetter_9 (by decide) (fun c_4 => ?_) (fun c_4 => ?_)
    · skip
      have h_5 : rg (123) (2147483647) p0 := by have ha := h_3; have hb_ := (rg_k (x := 122) (c := 122) (by decide)); simp only [rg, fa_lt, fa_le, fa_eq, (by decide : (122 : Int32).toInt = 122)] at ha hb_ c_4; simp only [rg]; omega
      refine lv_iconst (v := 0) hx hb dX9_isLetter_16 (by decide) ?_
      have hP9 := hP.sub (ws' := []) [] rfl
      have hD9 := hD.sub (ws' := []) [] (by decide) rfl
      exact W.zret (v := 0) hx hb hr (rfl) (fun t ht hW => ⟨⟨0, 0, rfl, ⟨rfl, ⟨(rg_mono (rg_k (x := 0) (c := 0) (by decide)) (by decide) (by decide)), fun hq => (rg_off (rg_k (x := 0) (c := 0) (by decide)) hq (by decide)).elim⟩⟩, ⟨(show (0 : Int32) = ltF p0 from lt_n h_5 (by decide)), by rw [ht]; exact hP9, hD9⟩⟩, hS.F ht⟩) hS.2.2 dX9_isLetter_17
    · skip
      have h_6 : rg (97) (122) p0 := by have ha := h_3; have hb_ := (rg_k (x := 122) (c := 122) (by decide)); simp only [rg, fa_lt, fa_le, fa_eq, (by decide : (122 : Int32).toInt = 122)] at ha hb_ c_4; simp only [rg]; omega
      refine lv_iconst (v := 1) hx hb dX9_isLetter_12 (by decide) ?_
      refine lv_goto (tgt := 17) hx hb dX9_isLetter_13 (by decide) ?_
      have hP9 := hP.sub (ws' := []) [] rfl
      have hD9 := hD.sub (ws' := []) [] (by decide) rfl
      exact W.zret (v := 1) hx hb hr (rfl) (fun t ht hW => ⟨⟨1, 1, rfl, ⟨rfl, ⟨(rg_mono (rg_k (x := 1) (c := 1) (by decide)) (by decide) (by decide)), fun _ => (rg_mono h_6 (by decide) (by decide))⟩⟩, ⟨(show (1 : Int32) = ltF p0 from lt_y (rg_mono h_6 (by decide) (by decide))), by rw [ht]; exact hP9, hD9⟩⟩, hS.F ht⟩) hS.2.2 dX9_isLetter_17
def v_s_X9_two : List Cond := Cond.code yX9_two cX9_two 3 (some .int) :: ([] ++ ([]))
theorem k_s_X9_two : GoodIn lw_tbl v_s_X9_two := gd_c (List.mem_of_getElem? (i := 1636) (by decide +kernel)) rfl (goodIn_app (gd_nil) (gd_nil))
set_option maxHeartbeats 2000000 in
set_option maxRecDepth 100000 in
theorem c_s_X9_two (l : Launch) (dC : Nat → ClassId) (dI : Nat → Nat → Nat) (cB cI cJ cZ cP : ClassId) (p0 : Int32) (p1 : Int32) (p2 : Int32) (sz : Nat) : Met l yX9_two v_s_X9_two ({ frames := 0, cells := 0, slots := 0, locals := 0 }) (va_Pc [.int p0, .int p1, .int p2] (fun U => U.heap.size = sz ∧ va_P (dC, dI) vwCl [] U.heap ∧ va_K (dC, dI) vwCl (ty5 cB cI cJ cZ cP) U ∧ va_D (fun _ => True) [])) (va_Qi (fun (r : Int32) (u9 : Unit) => True) (fun u9 t => va_P (dC, dI) vwCl [] t.heap ∧ va_D (va_A [] sz) []) (va_A [] sz)) 0 0 (va_A [] sz) := by
  refine Met.ofW (cc := cX9_two) (maxL := 3) (ret := (some .int)) (by decide) rfl ?_
  intro p e s m args below meth c s₁ B hml hv
  obtain ⟨rfl, hsz, hP, hK, hD0⟩ := hv
  have hx := B.exec
  have hb := B.bytes
  have hr := B.returns
  have hts := atoms_spec (ws := v_s_X9_two) B.pre
  have hown : s.vm.findClass RX9 = some m.cls := findClass_of_methodNamed B.named
  have hlocks := B.notSynchronized
  subst hsz
  have hD := hD0.self (sz := s.heap.size)
  generalize hAe : va_A [] s.heap.size = A at hD ⊢
  have hA : ∀ q : Nat, s.heap.size ≤ q → A q := fun q h => by rw [← hAe]; exact Or.inr h
  have hP : va_P (dC, dI) vwCl [] s.heap := hP
  have hl := lv_entry ([.int p0, .int p1, .int p2]) (n := 3) (Nat.le_of_ble_eq_true rfl)
  rw [lg_entry_eq]
  generalize (lg_sl ([.int p0, .int p1, .int p2]) ++ List.replicate (3 - (lg_sl ([.int p0, .int p1, .int p2])).length) Slot.unset).toArray = ls at hl ⊢
  have hl : lv_has ls 3 [(0, .int p0), (1, .int p1), (2, .int p2)] := hl
  refine W_gen (A := A) hP (fun H locs hP hS => ?_)
  refine lv_iload_n hx hb dX9_two_0 rfl (lv_at hl 0 rfl) ?_
  by_cases c_1 : p0 = 38
  · skip
    refine tp_v (.int 38) (congrArg Value.int (c_1)) ?_
    refine lv_tableIn (off := 172) (tgt := 173) hx hb dX9_two_1 (by decide) (by decide) (by decide) (by decide) ?_
    have h_2 : rg (38) (38) p0 := by have ha := (rg_any p0); have hb_ := (rg_k (x := 38) (c := 38) (by decide)); simp only [rg, fa_lt, fa_le, fa_eq, (by decide : (38 : Int32).toInt = 38)] at ha hb_ c_1; simp only [rg]; omega
    refine lv_iload_n hx hb dX9_two_173 rfl (lv_at hl 1 rfl) ?_
    refine lv_if_eq (tgt := 185) hx hb dX9_two_174 (by decide) (fun c_3 => ?_) (fun c_3 => ?_)
    · skip
      have h_4 : rg (0) (0) p1 := by have ha := (rg_any p1); have hb_ := (rg_k (x := 0) (c := 0) (by decide)); simp only [rg, fa_lt, fa_le, fa_eq, (by decide : (0 : Int32).toInt = 0)] at ha hb_ c_3; simp only [rg]; omega
      refine lv_iconst (v := 0) hx hb dX9_two_185 (by decide) ?_
      have hP9 := hP.sub (ws' := []) [] rfl
      have hD9 := hD.sub (ws' := []) [] (by decide) rfl
      exact W.iret (v := 0) hx hb hr (fun t ht hW => ⟨⟨0, (), rfl, trivial, ⟨by rw [ht]; exact hP9, hD9⟩⟩, hS.F ht⟩) hS.2.2 dX9_two_186
    · skip
      refine lv_iload_n hx hb dX9_two_177 rfl (lv_at hl 2 rfl) ?_
      refine lv_if_eq (tgt := 185) hx hb dX9_two_178 (by decide) (fun c_5 => ?_) (fun c_5 => ?_)
      · skip
        have h_6 : rg (0) (0) p2 := by have ha := (rg_any p2); have hb_ := (rg_k (x := 0) (c := 0) (by decide)); simp only [rg, fa_lt, fa_le, fa_eq, (by decide : (0 : Int32).toInt = 0)] at ha hb_ c_5; simp only [rg]; omega
        refine lv_iconst (v := 0) hx hb dX9_two_185 (by decide) ?_
        have hP9 := hP.sub (ws' := []) [] rfl
        have hD9 := hD.sub (ws' := []) [] (by decide) rfl
        exact W.iret (v := 0) hx hb hr (fun t ht hW => ⟨⟨0, (), rfl, trivial, ⟨by rw [ht]; exact hP9, hD9⟩⟩, hS.F ht⟩) hS.2.2 dX9_two_186
      · skip
        refine lv_iconst (v := 1) hx hb dX9_two_181 (by decide) ?_
        refine lv_goto (tgt := 186) hx hb dX9_two_182 (by decide) ?_
        have hP9 := hP.sub (ws' := []) [] rfl
        have hD9 := hD.sub (ws' := []) [] (by decide) rfl
        exact W.iret (v := 1) hx hb hr (fun t ht hW => ⟨⟨1, (), rfl, trivial, ⟨by rw [ht]; exact hP9, hD9⟩⟩, hS.F ht⟩) hS.2.2 dX9_two_186
  by_cases c_7 : p0 = 39
  · skip
    refine tp_v (.int 39) (congrArg Value.int (c_7)) ?_
    refine lv_tableIn (off := 186) (tgt := 187) hx hb dX9_two_1 (by decide) (by decide) (by decide) (by decide) ?_
    have h_8 : rg (39) (39) p0 := by have ha := (rg_any p0); have hb_ := (rg_k (x := 39) (c := 39) (by decide)); simp only [rg, fa_lt, fa_le, fa_eq, (by decide : (39 : Int32).toInt = 39)] at ha hb_ c_7; simp only [rg]; omega
    refine lv_iload_n hx hb dX9_two_187 rfl (lv_at hl 1 rfl) ?_
    refine lv_if_ne (tgt := 195) hx hb dX9_two_188 (by decide) (fun c_9 => ?_) (fun c_9 => ?_)
    · skip
      refine lv_iconst (v := 1) hx hb dX9_two_195 (by decide) ?_
      refine lv_goto (tgt := 200) hx hb dX9_two_196 (by decide) ?_
      have hP9 := hP.sub (ws' := []) [] rfl
      have hD9 := hD.sub (ws' := []) [] (by decide) rfl
      exact W.iret (v := 1) hx hb hr (fun t ht hW => ⟨⟨1, (), rfl, trivial, ⟨by rw [ht]; exact hP9, hD9⟩⟩, hS.F ht⟩) hS.2.2 dX9_two_200
    · skip
      have h_10 : rg (0) (0) p1 := by have ha := (rg_any p1); have hb_ := (rg_k (x := 0) (c := 0) (by decide)); simp only [rg, fa_lt, fa_le, fa_eq, (by decide : (0 : Int32).toInt = 0)] at ha hb_ c_9; simp only [rg]; omega
      refine lv_iload_n hx hb dX9_two_191 rfl (lv_at hl 2 rfl) ?_
      refine lv_if_eq (tgt := 199) hx hb dX9_two_192 (by decide) (fun c_11 => ?_) (fun c_11 => ?_)
      · skip
        have h_12 : rg (0) (0) p2 := by have ha := (rg_any p2); have hb_ := (rg_k (x := 0) (c := 0) (by decide)); simp only [rg, fa_lt, fa_le, fa_eq, (by decide : (0 : Int32).toInt = 0)] at ha hb_ c_11; simp only [rg]; omega
        refine lv_iconst (v := 0) hx hb dX9_two_199 (by decide) ?_
        have hP9 := hP.sub (ws' := []) [] rfl
        have hD9 := hD.sub (ws' := []) [] (by decide) rfl
        exact W.iret (v := 0) hx hb hr (fun t ht hW => ⟨⟨0, (), rfl, trivial, ⟨by rw [ht]; exact hP9, hD9⟩⟩, hS.F ht⟩) hS.2.2 dX9_two_200
      · skip
        refine lv_iconst (v := 1) hx hb dX9_two_195 (by decide) ?_
        refine lv_goto (tgt := 200) hx hb dX9_two_196 (by decide) ?_
        have hP9 := hP.sub (ws' := []) [] rfl
        have hD9 := hD.sub (ws' := []) [] (by decide) rfl
        exact W.iret (v := 1) hx hb hr (fun t ht hW => ⟨⟨1, (), rfl, trivial, ⟨by rw [ht]; exact hP9, hD9⟩⟩, hS.F ht⟩) hS.2.2 dX9_two_200
  by_cases c_13 : p0 = 40
  · skip
    refine tp_v (.int 40) (congrArg Value.int (c_13)) ?_
    refine lv_tableIn (off := 186) (tgt := 187) hx hb dX9_two_1 (by decide) (by decide) (by decide) (by decide) ?_
    have h_14 : rg (40) (40) p0 := by have ha := (rg_any p0); have hb_ := (rg_k (x := 40) (c := 40) (by decide)); simp only [rg, fa_lt, fa_le, fa_eq, (by decide : (40 : Int32).toInt = 40)] at ha hb_ c_13; simp only [rg]; omega
    refine lv_iload_n hx hb dX9_two_187 rfl (lv_at hl 1 rfl) ?_
    refine lv_if_ne (tgt := 195) hx hb dX9_two_188 (by decide) (fun c_15 => ?_) (fun c_15 => ?_)
    · skip
      refine lv_iconst (v := 1) hx hb dX9_two_195 (by decide) ?_
      refine lv_goto (tgt := 200) hx hb dX9_two_196 (by decide) ?_
      have hP9 := hP.sub (ws' := []) [] rfl
      have hD9 := hD.sub (ws' := []) [] (by decide) rfl
      exact W.iret (v := 1) hx hb hr (fun t ht hW => ⟨⟨1, (), rfl, trivial, ⟨by rw [ht]; exact hP9, hD9⟩⟩, hS.F ht⟩) hS.2.2 dX9_two_200
    · skip
      have h_16 : rg (0) (0) p1 := by have ha := (rg_any p1); have hb_ := (rg_k (x := 0) (c := 0) (by decide)); simp only [rg, fa_lt, fa_le, fa_eq, (by decide : (0 : Int32).toInt = 0)] at ha hb_ c_15; simp only [rg]; omega
      refine lv_iload_n hx hb dX9_two_191 rfl (lv_at hl 2 rfl) ?_
      refine lv_if_eq (tgt := 199) hx hb dX9_two_192 (by decide) (fun c_17 => ?_) (fun c_17 => ?_)
      · skip
        have h_18 : rg (0) (0) p2 := by have ha := (rg_any p2); have hb_ := (rg_k (x := 0) (c := 0) (by decide)); simp only [rg, fa_lt, fa_le, fa_eq, (by decide : (0 : Int32).toInt = 0)] at ha hb_ c_17; simp only [rg]; omega
        refine lv_iconst (v := 0) hx hb dX9_two_199 (by decide) ?_
        have hP9 := hP.sub (ws' := []) [] rfl
        have hD9 := hD.sub (ws' := []) [] (by decide) rfl
        exact W.iret (v := 0) hx hb hr (fun t ht hW => ⟨⟨0, (), rfl, trivial, ⟨by rw [ht]; exact hP9, hD9⟩⟩, hS.F ht⟩) hS.2.2 dX9_two_200
      · skip
        refine lv_iconst (v := 1) hx hb dX9_two_195 (by decide) ?_
        refine lv_goto (tgt := 200) hx hb dX9_two_196 (by decide) ?_
        have hP9 := hP.sub (ws' := []) [] rfl
        have hD9 := hD.sub (ws' := []) [] (by decide) rfl
        exact W.iret (v := 1) hx hb hr (fun t ht hW => ⟨⟨1, (), rfl, trivial, ⟨by rw [ht]; exact hP9, hD9⟩⟩, hS.F ht⟩) hS.2.2 dX9_two_200
  by_cases c_19 : p0 = 41
  · skip
    refine tp_v (.int 41) (congrArg Value.int (c_19)) ?_
    refine lv_tableIn (off := 186) (tgt := 187) hx hb dX9_two_1 (by decide) (by decide) (by decide) (by decide) ?_
    have h_20 : rg (41) (41) p0 := by have ha := (rg_any p0); have hb_ := (rg_k (x := 41) (c := 41) (by decide)); simp only [rg, fa_lt, fa_le, fa_eq, (by decide : (41 : Int32).toInt = 41)] at ha hb_ c_19; simp only [rg]; omega
    refine lv_iload_n hx hb dX9_two_187 rfl (lv_at hl 1 rfl) ?_
    refine lv_if_ne (tgt := 195) hx hb dX9_two_188 (by decide) (fun c_21 => ?_) (fun c_21 => ?_)
    · skip
      refine lv_iconst (v := 1) hx hb dX9_two_195 (by decide) ?_
      refine lv_goto (tgt := 200) hx hb dX9_two_196 (by decide) ?_
      have hP9 := hP.sub (ws' := []) [] rfl
      have hD9 := hD.sub (ws' := []) [] (by decide) rfl
      exact W.iret (v := 1) hx hb hr (fun t ht hW => ⟨⟨1, (), rfl, trivial, ⟨by rw [ht]; exact hP9, hD9⟩⟩, hS.F ht⟩) hS.2.2 dX9_two_200
    · skip
      have h_22 : rg (0) (0) p1 := by have ha := (rg_any p1); have hb_ := (rg_k (x := 0) (c := 0) (by decide)); simp only [rg, fa_lt, fa_le, fa_eq, (by decide : (0 : Int32).toInt = 0)] at ha hb_ c_21; simp only [rg]; omega
      refine lv_iload_n hx hb dX9_two_191 rfl (lv_at hl 2 rfl) ?_
      refine lv_if_eq (tgt := 199) hx hb dX9_two_192 (by decide) (fun c_23 => ?_) (fun c_23 => ?_)
      · skip
        have h_24 : rg (0) (0) p2 := by have ha := (rg_any p2); have hb_ := (rg_k (x := 0) (c := 0) (by decide)); simp only [rg, fa_lt, fa_le, fa_eq, (by decide : (0 : Int32).toInt = 0)] at ha hb_ c_23; simp only [rg]; omega
        refine lv_iconst (v := 0) hx hb dX9_two_199 (by decide) ?_
        have hP9 := hP.sub (ws' := []) [] rfl
        have hD9 := hD.sub (ws' := []) [] (by decide) rfl
        exact W.iret (v := 0) hx hb hr (fun t ht hW => ⟨⟨0, (), rfl, trivial, ⟨by rw [ht]; exact hP9, hD9⟩⟩, hS.F ht⟩) hS.2.2 dX9_two_200
      · skip
        refine lv_iconst (v := 1) hx hb dX9_two_195 (by decide) ?_
        refine lv_goto (tgt := 200) hx hb dX9_two_196 (by decide) ?_
        have hP9 := hP.sub (ws' := []) [] rfl
        have hD9 := hD.sub (ws' := []) [] (by decide) rfl
        exact W.iret (v := 1) hx hb hr (fun t ht hW => ⟨⟨1, (), rfl, trivial, ⟨by rw [ht]; exact hP9, hD9⟩⟩, hS.F ht⟩) hS.2.2 dX9_two_200
  by_cases c_25 : p0 = 42
  · skip
    refine tp_v (.int 42) (congrArg Value.int (c_25)) ?_
    refine lv_tableIn (off := 123) (tgt := 124) hx hb dX9_two_1 (by decide) (by decide) (by decide) (by decide) ?_
    have h_26 : rg (42) (42) p0 := by have ha := (rg_any p0); have hb_ := (rg_k (x := 42) (c := 42) (by decide)); simp only [rg, fa_lt, fa_le, fa_eq, (by decide : (42 : Int32).toInt = 42)] at ha hb_ c_25; simp only [rg]; omega
    refine lv_iload_n hx hb dX9_two_124 rfl (lv_at hl 1 rfl) ?_
    refine lv_iload_n hx hb dX9_two_125 rfl (lv_at hl 2 rfl) ?_
    refine lv_imul hx hb dX9_two_126 ?_
    refine lv_topi (fun x_27 ex_27 => ?_)
    have hP9 := hP.sub (ws' := []) [] rfl
    have hD9 := hD.sub (ws' := []) [] (by decide) rfl
    exact W.iret (v := x_27) hx hb hr (fun t ht hW => ⟨⟨x_27, (), rfl, trivial, ⟨by rw [ht]; exact hP9, hD9⟩⟩, hS.F ht⟩) hS.2.2 dX9_two_127
  by_cases c_28 : p0 = 43
  · skip
    refine tp_v (.int 43) (congrArg Value.int (c_28)) ?_
    refine lv_tableIn (off := 115) (tgt := 116) hx hb dX9_two_1 (by decide) (by decide) (by decide) (by decide) ?_
    have h_29 : rg (43) (43) p0 := by have ha := (rg_any p0); have hb_ := (rg_k (x := 43) (c := 43) (by decide)); simp only [rg, fa_lt, fa_le, fa_eq, (by decide : (43 : Int32).toInt = 43)] at ha hb_ c_28; simp only [rg]; omega
    refine lv_iload_n hx hb dX9_two_116 rfl (lv_at hl 1 rfl) ?_
    refine lv_iload_n hx hb dX9_two_117 rfl (lv_at hl 2 rfl) ?_
    refine lv_iadd hx hb dX9_two_118 ?_
    refine lv_topi (fun x_30 ex_30 => ?_)
    have hP9 := hP.sub (ws' := []) [] rfl
    have hD9 := hD.sub (ws' := []) [] (by decide) rfl
    exact W.iret (v := x_30) hx hb hr (fun t ht hW => ⟨⟨x_30, (), rfl, trivial, ⟨by rw [ht]; exact hP9, hD9⟩⟩, hS.F ht⟩) hS.2.2 dX9_two_119
  by_cases c_31 : p0 = 44
  · skip
    refine tp_v (.int 44) (congrArg Value.int (c_31)) ?_
    refine lv_tableIn (off := 186) (tgt := 187) hx hb dX9_two_1 (by decide) (by decide) (by decide) (by decide) ?_
    have h_32 : rg (44) (44) p0 := by have ha := (rg_any p0); have hb_ := (rg_k (x := 44) (c := 44) (by decide)); simp only [rg, fa_lt, fa_le, fa_eq, (by decide : (44 : Int32).toInt = 44)] at ha hb_ c_31; simp only [rg]; omega
    refine lv_iload_n hx hb dX9_two_187 rfl (lv_at hl 1 rfl) ?_
    refine lv_if_ne (tgt := 195) hx hb dX9_two_188 (by decide) (fun c_33 => ?_) (fun c_33 => ?_)
    · skip
      refine lv_iconst (v := 1) hx hb dX9_two_195 (by decide) ?_
      refine lv_goto (tgt := 200) hx hb dX9_two_196 (by decide) ?_
      have hP9 := hP.sub (ws' := []) [] rfl
      have hD9 := hD.sub (ws' := []) [] (by decide) rfl
      exact W.iret (v := 1) hx hb hr (fun t ht hW => ⟨⟨1, (), rfl, trivial, ⟨by rw [ht]; exact hP9, hD9⟩⟩, hS.F ht⟩) hS.2.2 dX9_two_200
    · skip
      have h_34 : rg (0) (0) p1 := by have ha := (rg_any p1); have hb_ := (rg_k (x := 0) (c := 0) (by decide)); simp only [rg, fa_lt, fa_le, fa_eq, (by decide : (0 : Int32).toInt = 0)] at ha hb_ c_33; simp only [rg]; omega
      refine lv_iload_n hx hb dX9_two_191 rfl (lv_at hl 2 rfl) ?_
      refine lv_if_eq (tgt := 199) hx hb dX9_two_192 (by decide) (fun c_35 => ?_) (fun c_35 => ?_)
      · skip
        have h_36 : rg (0) (0) p2 := by have ha := (rg_any p2); have hb_ := (rg_k (x := 0) (c := 0) (by decide)); simp only [rg, fa_lt, fa_le, fa_eq, (by decide : (0 : Int32).toInt = 0)] at ha hb_ c_35; simp only [rg]; omega
        refine lv_iconst (v := 0) hx hb dX9_two_199 (by decide) ?_
        have hP9 := hP.sub (ws' := []) [] rfl
        have hD9 := hD.sub (ws' := []) [] (by decide) rfl
        exact W.iret (v := 0) hx hb hr (fun t ht hW => ⟨⟨0, (), rfl, trivial, ⟨by rw [ht]; exact hP9, hD9⟩⟩, hS.F ht⟩) hS.2.2 dX9_two_200
      · skip
        refine lv_iconst (v := 1) hx hb dX9_two_195 (by decide) ?_
        refine lv_goto (tgt := 200) hx hb dX9_two_196 (by decide) ?_
        have hP9 := hP.sub (ws' := []) [] rfl
        have hD9 := hD.sub (ws' := []) [] (by decide) rfl
        exact W.iret (v := 1) hx hb hr (fun t ht hW => ⟨⟨1, (), rfl, trivial, ⟨by rw [ht]; exact hP9, hD9⟩⟩, hS.F ht⟩) hS.2.2 dX9_two_200
  by_cases c_37 : p0 = 45
  · skip
    refine tp_v (.int 45) (congrArg Value.int (c_37)) ?_
    refine lv_tableIn (off := 119) (tgt := 120) hx hb dX9_two_1 (by decide) (by decide) (by decide) (by decide) ?_
    have h_38 : rg (45) (45) p0 := by have ha := (rg_any p0); have hb_ := (rg_k (x := 45) (c := 45) (by decide)); simp only [rg, fa_lt, fa_le, fa_eq, (by decide : (45 : Int32).toInt = 45)] at ha hb_ c_37; simp only [rg]; omega
    refine lv_iload_n hx hb dX9_two_120 rfl (lv_at hl 1 rfl) ?_
    refine lv_iload_n hx hb dX9_two_121 rfl (lv_at hl 2 rfl) ?_
    refine lv_isub hx hb dX9_two_122 ?_
    refine lv_topi (fun x_39 ex_39 => ?_)
    have hP9 := hP.sub (ws' := []) [] rfl
    have hD9 := hD.sub (ws' := []) [] (by decide) rfl
    exact W.iret (v := x_39) hx hb hr (fun t ht hW => ⟨⟨x_39, (), rfl, trivial, ⟨by rw [ht]; exact hP9, hD9⟩⟩, hS.F ht⟩) hS.2.2 dX9_two_123
  by_cases c_40 : p0 = 46
  · skip
    refine tp_v (.int 46) (congrArg Value.int (c_40)) ?_
    refine lv_tableIn (off := 186) (tgt := 187) hx hb dX9_two_1 (by decide) (by decide) (by decide) (by decide) ?_
    have h_41 : rg (46) (46) p0 := by have ha := (rg_any p0); have hb_ := (rg_k (x := 46) (c := 46) (by decide)); simp only [rg, fa_lt, fa_le, fa_eq, (by decide : (46 : Int32).toInt = 46)] at ha hb_ c_40; simp only [rg]; omega
    refine lv_iload_n hx hb dX9_two_187 rfl (lv_at hl 1 rfl) ?_
    refine lv_if_ne (tgt := 195) hx hb dX9_two_188 (by decide) (fun c_42 => ?_) (fun c_42 => ?_)
    · skip
      refine lv_iconst (v := 1) hx hb dX9_two_195 (by decide) ?_
      refine lv_goto (tgt := 200) hx hb dX9_two_196 (by decide) ?_
      have hP9 := hP.sub (ws' := []) [] rfl
      have hD9 := hD.sub (ws' := []) [] (by decide) rfl
      exact W.iret (v := 1) hx hb hr (fun t ht hW => ⟨⟨1, (), rfl, trivial, ⟨by rw [ht]; exact hP9, hD9⟩⟩, hS.F ht⟩) hS.2.2 dX9_two_200
    · skip
      have h_43 : rg (0) (0) p1 := by have ha := (rg_any p1); have hb_ := (rg_k (x := 0) (c := 0) (by decide)); simp only [rg, fa_lt, fa_le, fa_eq, (by decide : (0 : Int32).toInt = 0)] at ha hb_ c_42; simp only [rg]; omega
      refine lv_iload_n hx hb dX9_two_191 rfl (lv_at hl 2 rfl) ?_
      refine lv_if_eq (tgt := 199) hx hb dX9_two_192 (by decide) (fun c_44 => ?_) (fun c_44 => ?_)
      · skip
        have h_45 : rg (0) (0) p2 := by have ha := (rg_any p2); have hb_ := (rg_k (x := 0) (c := 0) (by decide)); simp only [rg, fa_lt, fa_le, fa_eq, (by decide : (0 : Int32).toInt = 0)] at ha hb_ c_44; simp only [rg]; omega
        refine lv_iconst (v := 0) hx hb dX9_two_199 (by decide) ?_
        have hP9 := hP.sub (ws' := []) [] rfl
        have hD9 := hD.sub (ws' := []) [] (by decide) rfl
        exact W.iret (v := 0) hx hb hr (fun t ht hW => ⟨⟨0, (), rfl, trivial, ⟨by rw [ht]; exact hP9, hD9⟩⟩, hS.F ht⟩) hS.2.2 dX9_two_200
      · skip
        refine lv_iconst (v := 1) hx hb dX9_two_195 (by decide) ?_
        refine lv_goto (tgt := 200) hx hb dX9_two_196 (by decide) ?_
        have hP9 := hP.sub (ws' := []) [] rfl
        have hD9 := hD.sub (ws' := []) [] (by decide) rfl
        exact W.iret (v := 1) hx hb hr (fun t ht hW => ⟨⟨1, (), rfl, trivial, ⟨by rw [ht]; exact hP9, hD9⟩⟩, hS.F ht⟩) hS.2.2 dX9_two_200
  by_cases c_46 : p0 = 47
  · skip
    refine tp_v (.int 47) (congrArg Value.int (c_46)) ?_
    refine lv_tableIn (off := 127) (tgt := 128) hx hb dX9_two_1 (by decide) (by decide) (by decide) (by decide) ?_
    have h_47 : rg (47) (47) p0 := by have ha := (rg_any p0); have hb_ := (rg_k (x := 47) (c := 47) (by decide)); simp only [rg, fa_lt, fa_le, fa_eq, (by decide : (47 : Int32).toInt = 47)] at ha hb_ c_46; simp only [rg]; omega
    refine lv_iload_n hx hb dX9_two_128 rfl (lv_at hl 2 rfl) ?_
    refine lv_if_ne (tgt := 136) hx hb dX9_two_129 (by decide) (fun c_48 => ?_) (fun c_48 => ?_)
    · skip
      refine lv_iload_n hx hb dX9_two_136 rfl (lv_at hl 1 rfl) ?_
      refine lv_iload_n hx hb dX9_two_137 rfl (lv_at hl 2 rfl) ?_
      refine lv_idiv hx hb dX9_two_138 c_48 ?_
      refine lv_topi (fun x_49 ex_49 => ?_)
      have hP9 := hP.sub (ws' := []) [] rfl
      have hD9 := hD.sub (ws' := []) [] (by decide) rfl
      exact W.iret (v := x_49) hx hb hr (fun t ht hW => ⟨⟨x_49, (), rfl, trivial, ⟨by rw [ht]; exact hP9, hD9⟩⟩, hS.F ht⟩) hS.2.2 dX9_two_139
    · skip
      have h_50 : rg (0) (0) p2 := by have ha := (rg_any p2); have hb_ := (rg_k (x := 0) (c := 0) (by decide)); simp only [rg, fa_lt, fa_le, fa_eq, (by decide : (0 : Int32).toInt = 0)] at ha hb_ c_48; simp only [rg]; omega
      refine lv_iconst (v := 0) hx hb dX9_two_132 (by decide) ?_
      refine lv_goto (tgt := 139) hx hb dX9_two_133 (by decide) ?_
      have hP9 := hP.sub (ws' := []) [] rfl
      have hD9 := hD.sub (ws' := []) [] (by decide) rfl
      exact W.iret (v := 0) hx hb hr (fun t ht hW => ⟨⟨0, (), rfl, trivial, ⟨by rw [ht]; exact hP9, hD9⟩⟩, hS.F ht⟩) hS.2.2 dX9_two_139
  by_cases c_51 : p0 = 48
  · skip
    refine tp_v (.int 48) (congrArg Value.int (c_51)) ?_
    refine lv_tableIn (off := 186) (tgt := 187) hx hb dX9_two_1 (by decide) (by decide) (by decide) (by decide) ?_
    have h_52 : rg (48) (48) p0 := by have ha := (rg_any p0); have hb_ := (rg_k (x := 48) (c := 48) (by decide)); simp only [rg, fa_lt, fa_le, fa_eq, (by decide : (48 : Int32).toInt = 48)] at ha hb_ c_51; simp only [rg]; omega
    refine lv_iload_n hx hb dX9_two_187 rfl (lv_at hl 1 rfl) ?_
    refine lv_if_ne (tgt := 195) hx hb dX9_two_188 (by decide) (fun c_53 => ?_) (fun c_53 => ?_)
    · skip
      refine lv_iconst (v := 1) hx hb dX9_two_195 (by decide) ?_
      refine lv_goto (tgt := 200) hx hb dX9_two_196 (by decide) ?_
      have hP9 := hP.sub (ws' := []) [] rfl
      have hD9 := hD.sub (ws' := []) [] (by decide) rfl
      exact W.iret (v := 1) hx hb hr (fun t ht hW => ⟨⟨1, (), rfl, trivial, ⟨by rw [ht]; exact hP9, hD9⟩⟩, hS.F ht⟩) hS.2.2 dX9_two_200
    · skip
      have h_54 : rg (0) (0) p1 := by have ha := (rg_any p1); have hb_ := (rg_k (x := 0) (c := 0) (by decide)); simp only [rg, fa_lt, fa_le, fa_eq, (by decide : (0 : Int32).toInt = 0)] at ha hb_ c_53; simp only [rg]; omega
      refine lv_iload_n hx hb dX9_two_191 rfl (lv_at hl 2 rfl) ?_
      refine lv_if_eq (tgt := 199) hx hb dX9_two_192 (by decide) (fun c_55 => ?_) (fun c_55 => ?_)
      · skip
        have h_56 : rg (0) (0) p2 := by have ha := (rg_any p2); have hb_ := (rg_k (x := 0) (c := 0) (by decide)); simp only [rg, fa_lt, fa_le, fa_eq, (by decide : (0 : Int32).toInt = 0)] at ha hb_ c_55; simp only [rg]; omega
        refine lv_iconst (v := 0) hx hb dX9_two_199 (by decide) ?_
        have hP9 := hP.sub (ws' := []) [] rfl
        have hD9 := hD.sub (ws' := []) [] (by decide) rfl
        exact W.iret (v := 0) hx hb hr (fun t ht hW => ⟨⟨0, (), rfl, trivial, ⟨by rw [ht]; exact hP9, hD9⟩⟩, hS.F ht⟩) hS.2.2 dX9_two_200
      · skip
        refine lv_iconst (v := 1) hx hb dX9_two_195 (by decide) ?_
        refine lv_goto (tgt := 200) hx hb dX9_two_196 (by decide) ?_
        have hP9 := hP.sub (ws' := []) [] rfl
        have hD9 := hD.sub (ws' := []) [] (by decide) rfl
        exact W.iret (v := 1) hx hb hr (fun t ht hW => ⟨⟨1, (), rfl, trivial, ⟨by rw [ht]; exact hP9, hD9⟩⟩, hS.F ht⟩) hS.2.2 dX9_two_200
  by_cases c_57 : p0 = 49
  · skip
    refine tp_v (.int 49) (congrArg Value.int (c_57)) ?_
    refine lv_tableIn (off := 186) (tgt := 187) hx hb dX9_two_1 (by decide) (by decide) (by decide) (by decide) ?_
    have h_58 : rg (49) (49) p0 := by have ha := (rg_any p0); have hb_ := (rg_k (x := 49) (c := 49) (by decide)); simp only [rg, fa_lt, fa_le, fa_eq, (by decide : (49 : Int32).toInt = 49)] at ha hb_ c_57; simp only [rg]; omega
    refine lv_iload_n hx hb dX9_two_187 rfl (lv_at hl 1 rfl) ?_
    refine lv_if_ne (tgt := 195) hx hb dX9_two_188 (by decide) (fun c_59 => ?_) (fun c_59 => ?_)
    · skip
      refine lv_iconst (v := 1) hx hb dX9_two_195 (by decide) ?_
      refine lv_goto (tgt := 200) hx hb dX9_two_196 (by decide) ?_
      have hP9 := hP.sub (ws' := []) [] rfl
      have hD9 := hD.sub (ws' := []) [] (by decide) rfl
      exact W.iret (v := 1) hx hb hr (fun t ht hW => ⟨⟨1, (), rfl, trivial, ⟨by rw [ht]; exact hP9, hD9⟩⟩, hS.F ht⟩) hS.2.2 dX9_two_200
    · skip
      have h_60 : rg (0) (0) p1 := by have ha := (rg_any p1); have hb_ := (rg_k (x := 0) (c := 0) (by decide)); simp only [rg, fa_lt, fa_le, fa_eq, (by decide : (0 : Int32).toInt = 0)] at ha hb_ c_59; simp only [rg]; omega
      refine lv_iload_n hx hb dX9_two_191 rfl (lv_at hl 2 rfl) ?_
      refine lv_if_eq (tgt := 199) hx hb dX9_two_192 (by decide) (fun c_61 => ?_) (fun c_61 => ?_)
      · skip
        have h_62 : rg (0) (0) p2 := by have ha := (rg_any p2); have hb_ := (rg_k (x := 0) (c := 0) (by decide)); simp only [rg, fa_lt, fa_le, fa_eq, (by decide : (0 : Int32).toInt = 0)] at ha hb_ c_61; simp only [rg]; omega
        refine lv_iconst (v := 0) hx hb dX9_two_199 (by decide) ?_
        have hP9 := hP.sub (ws' := []) [] rfl
        have hD9 := hD.sub (ws' := []) [] (by decide) rfl
        exact W.iret (v := 0) hx hb hr (fun t ht hW => ⟨⟨0, (), rfl, trivial, ⟨by rw [ht]; exact hP9, hD9⟩⟩, hS.F ht⟩) hS.2.2 dX9_two_200
      · skip
        refine lv_iconst (v := 1) hx hb dX9_two_195 (by decide) ?_
        refine lv_goto (tgt := 200) hx hb dX9_two_196 (by decide) ?_
        have hP9 := hP.sub (ws' := []) [] rfl
        have hD9 := hD.sub (ws' := []) [] (by decide) rfl
        exact W.iret (v := 1) hx hb hr (fun t ht hW => ⟨⟨1, (), rfl, trivial, ⟨by rw [ht]; exact hP9, hD9⟩⟩, hS.F ht⟩) hS.2.2 dX9_two_200
  by_cases c_63 : p0 = 50
  · skip
    refine tp_v (.int 50) (congrArg Value.int (c_63)) ?_
    refine lv_tableIn (off := 186) (tgt := 187) hx hb dX9_two_1 (by decide) (by decide) (by decide) (by decide) ?_
    have h_64 : rg (50) (50) p0 := by have ha := (rg_any p0); have hb_ := (rg_k (x := 50) (c := 50) (by decide)); simp only [rg, fa_lt, fa_le, fa_eq, (by decide : (50 : Int32).toInt = 50)] at ha hb_ c_63; simp only [rg]; omega
    refine lv_iload_n hx hb dX9_two_187 rfl (lv_at hl 1 rfl) ?_
    refine lv_if_ne (tgt := 195) hx hb dX9_two_188 (by decide) (fun c_65 => ?_) (fun c_65 => ?_)
    · skip
      refine lv_iconst (v := 1) hx hb dX9_two_195 (by decide) ?_
      refine lv_goto (tgt := 200) hx hb dX9_two_196 (by decide) ?_
      have hP9 := hP.sub (ws' := []) [] rfl
      have hD9 := hD.sub (ws' := []) [] (by decide) rfl
      exact W.iret (v := 1) hx hb hr (fun t ht hW => ⟨⟨1, (), rfl, trivial, ⟨by rw [ht]; exact hP9, hD9⟩⟩, hS.F ht⟩) hS.2.2 dX9_two_200
    · skip
      have h_66 : rg (0) (0) p1 := by have ha := (rg_any p1); have hb_ := (rg_k (x := 0) (c := 0) (by decide)); simp only [rg, fa_lt, fa_le, fa_eq, (by decide : (0 : Int32).toInt = 0)] at ha hb_ c_65; simp only [rg]; omega
      refine lv_iload_n hx hb dX9_two_191 rfl (lv_at hl 2 rfl) ?_
      refine lv_if_eq (tgt := 199) hx hb dX9_two_192 (by decide) (fun c_67 => ?_) (fun c_67 => ?_)
      · skip
        have h_68 : rg (0) (0) p2 := by have ha := (rg_any p2); have hb_ := (rg_k (x := 0) (c := 0) (by decide)); simp only [rg, fa_lt, fa_le, fa_eq, (by decide : (0 : Int32).toInt = 0)] at ha hb_ c_67; simp only [rg]; omega
        refine lv_iconst (v := 0) hx hb dX9_two_199 (by decide) ?_
        have hP9 := hP.sub (ws' := []) [] rfl
        have hD9 := hD.sub (ws' := []) [] (by decide) rfl
        exact W.iret (v := 0) hx hb hr (fun t ht hW => ⟨⟨0, (), rfl, trivial, ⟨by rw [ht]; exact hP9, hD9⟩⟩, hS.F ht⟩) hS.2.2 dX9_two_200
      · skip
        refine lv_iconst (v := 1) hx hb dX9_two_195 (by decide) ?_
        refine lv_goto (tgt := 200) hx hb dX9_two_196 (by decide) ?_
        have hP9 := hP.sub (ws' := []) [] rfl
        have hD9 := hD.sub (ws' := []) [] (by decide) rfl
        exact W.iret (v := 1) hx hb hr (fun t ht hW => ⟨⟨1, (), rfl, trivial, ⟨by rw [ht]; exact hP9, hD9⟩⟩, hS.F ht⟩) hS.2.2 dX9_two_200
  by_cases c_69 : p0 = 51
  · skip
    refine tp_v (.int 51) (congrArg Value.int (c_69)) ?_
    refine lv_tableIn (off := 186) (tgt := 187) hx hb dX9_two_1 (by decide) (by decide) (by decide) (by decide) ?_
    have h_70 : rg (51) (51) p0 := by have ha := (rg_any p0); have hb_ := (rg_k (x := 51) (c := 51) (by decide)); simp only [rg, fa_lt, fa_le, fa_eq, (by decide : (51 : Int32).toInt = 51)] at ha hb_ c_69; simp only [rg]; omega
    refine lv_iload_n hx hb dX9_two_187 rfl (lv_at hl 1 rfl) ?_
    refine lv_if_ne (tgt := 195) hx hb dX9_two_188 (by decide) (fun c_71 => ?_) (fun c_71 => ?_)
    · skip
      refine lv_iconst (v := 1) hx hb dX9_two_195 (by decide) ?_
      refine lv_goto (tgt := 200) hx hb dX9_two_196 (by decide) ?_
      have hP9 := hP.sub (ws' := []) [] rfl
      have hD9 := hD.sub (ws' := []) [] (by decide) rfl
      exact W.iret (v := 1) hx hb hr (fun t ht hW => ⟨⟨1, (), rfl, trivial, ⟨by rw [ht]; exact hP9, hD9⟩⟩, hS.F ht⟩) hS.2.2 dX9_two_200
    · skip
      have h_72 : rg (0) (0) p1 := by have ha := (rg_any p1); have hb_ := (rg_k (x := 0) (c := 0) (by decide)); simp only [rg, fa_lt, fa_le, fa_eq, (by decide : (0 : Int32).toInt = 0)] at ha hb_ c_71; simp only [rg]; omega
      refine lv_iload_n hx hb dX9_two_191 rfl (lv_at hl 2 rfl) ?_
      refine lv_if_eq (tgt := 199) hx hb dX9_two_192 (by decide) (fun c_73 => ?_) (fun c_73 => ?_)
      · skip
        have h_74 : rg (0) (0) p2 := by have ha := (rg_any p2); have hb_ := (rg_k (x := 0) (c := 0) (by decide)); simp only [rg, fa_lt, fa_le, fa_eq, (by decide : (0 : Int32).toInt = 0)] at ha hb_ c_73; simp only [rg]; omega
        refine lv_iconst (v := 0) hx hb dX9_two_199 (by decide) ?_
        have hP9 := hP.sub (ws' := []) [] rfl
        have hD9 := hD.sub (ws' := []) [] (by decide) rfl
        exact W.iret (v := 0) hx hb hr (fun t ht hW => ⟨⟨0, (), rfl, trivial, ⟨by rw [ht]; exact hP9, hD9⟩⟩, hS.F ht⟩) hS.2.2 dX9_two_200
      · skip
        refine lv_iconst (v := 1) hx hb dX9_two_195 (by decide) ?_
        refine lv_goto (tgt := 200) hx hb dX9_two_196 (by decide) ?_
        have hP9 := hP.sub (ws' := []) [] rfl
        have hD9 := hD.sub (ws' := []) [] (by decide) rfl
        exact W.iret (v := 1) hx hb hr (fun t ht hW => ⟨⟨1, (), rfl, trivial, ⟨by rw [ht]; exact hP9, hD9⟩⟩, hS.F ht⟩) hS.2.2 dX9_two_200
  by_cases c_75 : p0 = 52
  · skip
    refine tp_v (.int 52) (congrArg Value.int (c_75)) ?_
    refine lv_tableIn (off := 186) (tgt := 187) hx hb dX9_two_1 (by decide) (by decide) (by decide) (by decide) ?_
    have h_76 : rg (52) (52) p0 := by have ha := (rg_any p0); have hb_ := (rg_k (x := 52) (c := 52) (by decide)); simp only [rg, fa_lt, fa_le, fa_eq, (by decide : (52 : Int32).toInt = 52)] at ha hb_ c_75; simp only [rg]; omega
    refine lv_iload_n hx hb dX9_two_187 rfl (lv_at hl 1 rfl) ?_
    refine lv_if_ne (tgt := 195) hx hb dX9_two_188 (by decide) (fun c_77 => ?_) (fun c_77 => ?_)
    · skip
      refine lv_iconst (v := 1) hx hb dX9_two_195 (by decide) ?_
      refine lv_goto (tgt := 200) hx hb dX9_two_196 (by decide) ?_
      have hP9 := hP.sub (ws' := []) [] rfl
      have hD9 := hD.sub (ws' := []) [] (by decide) rfl
      exact W.iret (v := 1) hx hb hr (fun t ht hW => ⟨⟨1, (), rfl, trivial, ⟨by rw [ht]; exact hP9, hD9⟩⟩, hS.F ht⟩) hS.2.2 dX9_two_200
    · skip
      have h_78 : rg (0) (0) p1 := by have ha := (rg_any p1); have hb_ := (rg_k (x := 0) (c := 0) (by decide)); simp only [rg, fa_lt, fa_le, fa_eq, (by decide : (0 : Int32).toInt = 0)] at ha hb_ c_77; simp only [rg]; omega
      refine lv_iload_n hx hb dX9_two_191 rfl (lv_at hl 2 rfl) ?_
      refine lv_if_eq (tgt := 199) hx hb dX9_two_192 (by decide) (fun c_79 => ?_) (fun c_79 => ?_)
      · skip
        have h_80 : rg (0) (0) p2 := by have ha := (rg_any p2); have hb_ := (rg_k (x := 0) (c := 0) (by decide)); simp only [rg, fa_lt, fa_le, fa_eq, (by decide : (0 : Int32).toInt = 0)] at ha hb_ c_79; simp only [rg]; omega
        refine lv_iconst (v := 0) hx hb dX9_two_199 (by decide) ?_
        have hP9 := hP.sub (ws' := []) [] rfl
        have hD9 := hD.sub (ws' := []) [] (by decide) rfl
        exact W.iret (v := 0) hx hb hr (fun t ht hW => ⟨⟨0, (), rfl, trivial, ⟨by rw [ht]; exact hP9, hD9⟩⟩, hS.F ht⟩) hS.2.2 dX9_two_200
      · skip
        refine lv_iconst (v := 1) hx hb dX9_two_195 (by decide) ?_
        refine lv_goto (tgt := 200) hx hb dX9_two_196 (by decide) ?_
        have hP9 := hP.sub (ws' := []) [] rfl
        have hD9 := hD.sub (ws' := []) [] (by decide) rfl
        exact W.iret (v := 1) hx hb hr (fun t ht hW => ⟨⟨1, (), rfl, trivial, ⟨by rw [ht]; exact hP9, hD9⟩⟩, hS.F ht⟩) hS.2.2 dX9_two_200
  by_cases c_81 : p0 = 53
  · skip
    refine tp_v (.int 53) (congrArg Value.int (c_81)) ?_
    refine lv_tableIn (off := 186) (tgt := 187) hx hb dX9_two_1 (by decide) (by decide) (by decide) (by decide) ?_
    have h_82 : rg (53) (53) p0 := by have ha := (rg_any p0); have hb_ := (rg_k (x := 53) (c := 53) (by decide)); simp only [rg, fa_lt, fa_le, fa_eq, (by decide : (53 : Int32).toInt = 53)] at ha hb_ c_81; simp only [rg]; omega
    refine lv_iload_n hx hb dX9_two_187 rfl (lv_at hl 1 rfl) ?_
    refine lv_if_ne (tgt := 195) hx hb dX9_two_188 (by decide) (fun c_83 => ?_) (fun c_83 => ?_)
    · skip
      refine lv_iconst (v := 1) hx hb dX9_two_195 (by decide) ?_
      refine lv_goto (tgt := 200) hx hb dX9_two_196 (by decide) ?_
      have hP9 := hP.sub (ws' := []) [] rfl
      have hD9 := hD.sub (ws' := []) [] (by decide) rfl
      exact W.iret (v := 1) hx hb hr (fun t ht hW => ⟨⟨1, (), rfl, trivial, ⟨by rw [ht]; exact hP9, hD9⟩⟩, hS.F ht⟩) hS.2.2 dX9_two_200
    · skip
      have h_84 : rg (0) (0) p1 := by have ha := (rg_any p1); have hb_ := (rg_k (x := 0) (c := 0) (by decide)); simp only [rg, fa_lt, fa_le, fa_eq, (by decide : (0 : Int32).toInt = 0)] at ha hb_ c_83; simp only [rg]; omega
      refine lv_iload_n hx hb dX9_two_191 rfl (lv_at hl 2 rfl) ?_
      refine lv_if_eq (tgt := 199) hx hb dX9_two_192 (by decide) (fun c_85 => ?_) (fun c_85 => ?_)
      · skip
        have h_86 : rg (0) (0) p2 := by have ha := (rg_any p2); have hb_ := (rg_k (x := 0) (c := 0) (by decide)); simp only [rg, fa_lt, fa_le, fa_eq, (by decide : (0 : Int32).toInt = 0)] at ha hb_ c_85; simp only [rg]; omega
        refine lv_iconst (v := 0) hx hb dX9_two_199 (by decide) ?_
        have hP9 := hP.sub (ws' := []) [] rfl
        have hD9 := hD.sub (ws' := []) [] (by decide) rfl
        exact W.iret (v := 0) hx hb hr (fun t ht hW => ⟨⟨0, (), rfl, trivial, ⟨by rw [ht]; exact hP9, hD9⟩⟩, hS.F ht⟩) hS.2.2 dX9_two_200
      · skip
        refine lv_iconst (v := 1) hx hb dX9_two_195 (by decide) ?_
        refine lv_goto (tgt := 200) hx hb dX9_two_196 (by decide) ?_
        have hP9 := hP.sub (ws' := []) [] rfl
        have hD9 := hD.sub (ws' := []) [] (by decide) rfl
        exact W.iret (v := 1) hx hb hr (fun t ht hW => ⟨⟨1, (), rfl, trivial, ⟨by rw [ht]; exact hP9, hD9⟩⟩, hS.F ht⟩) hS.2.2 dX9_two_200
  by_cases c_87 : p0 = 54
  · skip
    refine tp_v (.int 54) (congrArg Value.int (c_87)) ?_
    refine lv_tableIn (off := 186) (tgt := 187) hx hb dX9_two_1 (by decide) (by decide) (by decide) (by decide) ?_
    have h_88 : rg (54) (54) p0 := by have ha := (rg_any p0); have hb_ := (rg_k (x := 54) (c := 54) (by decide)); simp only [rg, fa_lt, fa_le, fa_eq, (by decide : (54 : Int32).toInt = 54)] at ha hb_ c_87; simp only [rg]; omega
    refine lv_iload_n hx hb dX9_two_187 rfl (lv_at hl 1 rfl) ?_
    refine lv_if_ne (tgt := 195) hx hb dX9_two_188 (by decide) (fun c_89 => ?_) (fun c_89 => ?_)
    · skip
      refine lv_iconst (v := 1) hx hb dX9_two_195 (by decide) ?_
      refine lv_goto (tgt := 200) hx hb dX9_two_196 (by decide) ?_
      have hP9 := hP.sub (ws' := []) [] rfl
      have hD9 := hD.sub (ws' := []) [] (by decide) rfl
      exact W.iret (v := 1) hx hb hr (fun t ht hW => ⟨⟨1, (), rfl, trivial, ⟨by rw [ht]; exact hP9, hD9⟩⟩, hS.F ht⟩) hS.2.2 dX9_two_200
    · skip
      have h_90 : rg (0) (0) p1 := by have ha := (rg_any p1); have hb_ := (rg_k (x := 0) (c := 0) (by decide)); simp only [rg, fa_lt, fa_le, fa_eq, (by decide : (0 : Int32).toInt = 0)] at ha hb_ c_89; simp only [rg]; omega
      refine lv_iload_n hx hb dX9_two_191 rfl (lv_at hl 2 rfl) ?_
      refine lv_if_eq (tgt := 199) hx hb dX9_two_192 (by decide) (fun c_91 => ?_) (fun c_91 => ?_)
      · skip
        have h_92 : rg (0) (0) p2 := by have ha := (rg_any p2); have hb_ := (rg_k (x := 0) (c := 0) (by decide)); simp only [rg, fa_lt, fa_le, fa_eq, (by decide : (0 : Int32).toInt = 0)] at ha hb_ c_91; simp only [rg]; omega
        refine lv_iconst (v := 0) hx hb dX9_two_199 (by decide) ?_
        have hP9 := hP.sub (ws' := []) [] rfl
        have hD9 := hD.sub (ws' := []) [] (by decide) rfl
        exact W.iret (v := 0) hx hb hr (fun t ht hW => ⟨⟨0, (), rfl, trivial, ⟨by rw [ht]; exact hP9, hD9⟩⟩, hS.F ht⟩) hS.2.2 dX9_two_200
      · skip
        refine lv_iconst (v := 1) hx hb dX9_two_195 (by decide) ?_
        refine lv_goto (tgt := 200) hx hb dX9_two_196 (by decide) ?_
        have hP9 := hP.sub (ws' := []) [] rfl
        have hD9 := hD.sub (ws' := []) [] (by decide) rfl
        exact W.iret (v := 1) hx hb hr (fun t ht hW => ⟨⟨1, (), rfl, trivial, ⟨by rw [ht]; exact hP9, hD9⟩⟩, hS.F ht⟩) hS.2.2 dX9_two_200
  by_cases c_93 : p0 = 55
  · skip
    refine tp_v (.int 55) (congrArg Value.int (c_93)) ?_
    refine lv_tableIn (off := 186) (tgt := 187) hx hb dX9_two_1 (by decide) (by decide) (by decide) (by decide) ?_
    have h_94 : rg (55) (55) p0 := by have ha := (rg_any p0); have hb_ := (rg_k (x := 55) (c := 55) (by decide)); simp only [rg, fa_lt, fa_le, fa_eq, (by decide : (55 : Int32).toInt = 55)] at ha hb_ c_93; simp only [rg]; omega
    refine lv_iload_n hx hb dX9_two_187 rfl (lv_at hl 1 rfl) ?_
    refine lv_if_ne (tgt := 195) hx hb dX9_two_188 (by decide) (fun c_95 => ?_) (fun c_95 => ?_)
    · skip
      refine lv_iconst (v := 1) hx hb dX9_two_195 (by decide) ?_
      refine lv_goto (tgt := 200) hx hb dX9_two_196 (by decide) ?_
      have hP9 := hP.sub (ws' := []) [] rfl
      have hD9 := hD.sub (ws' := []) [] (by decide) rfl
      exact W.iret (v := 1) hx hb hr (fun t ht hW => ⟨⟨1, (), rfl, trivial, ⟨by rw [ht]; exact hP9, hD9⟩⟩, hS.F ht⟩) hS.2.2 dX9_two_200
    · skip
      have h_96 : rg (0) (0) p1 := by have ha := (rg_any p1); have hb_ := (rg_k (x := 0) (c := 0) (by decide)); simp only [rg, fa_lt, fa_le, fa_eq, (by decide : (0 : Int32).toInt = 0)] at ha hb_ c_95; simp only [rg]; omega
      refine lv_iload_n hx hb dX9_two_191 rfl (lv_at hl 2 rfl) ?_
      refine lv_if_eq (tgt := 199) hx hb dX9_two_192 (by decide) (fun c_97 => ?_) (fun c_97 => ?_)
      · skip
        have h_98 : rg (0) (0) p2 := by have ha := (rg_any p2); have hb_ := (rg_k (x := 0) (c := 0) (by decide)); simp only [rg, fa_lt, fa_le, fa_eq, (by decide : (0 : Int32).toInt = 0)] at ha hb_ c_97; simp only [rg]; omega
        refine lv_iconst (v := 0) hx hb dX9_two_199 (by decide) ?_
        have hP9 := hP.sub (ws' := []) [] rfl
        have hD9 := hD.sub (ws' := []) [] (by decide) rfl
        exact W.iret (v := 0) hx hb hr (fun t ht hW => ⟨⟨0, (), rfl, trivial, ⟨by rw [ht]; exact hP9, hD9⟩⟩, hS.F ht⟩) hS.2.2 dX9_two_200
      · skip
        refine lv_iconst (v := 1) hx hb dX9_two_195 (by decide) ?_
        refine lv_goto (tgt := 200) hx hb dX9_two_196 (by decide) ?_
        have hP9 := hP.sub (ws' := []) [] rfl
        have hD9 := hD.sub (ws' := []) [] (by decide) rfl
        exact W.iret (v := 1) hx hb hr (fun t ht hW => ⟨⟨1, (), rfl, trivial, ⟨by rw [ht]; exact hP9, hD9⟩⟩, hS.F ht⟩) hS.2.2 dX9_two_200
  by_cases c_99 : p0 = 56
  · skip
    refine tp_v (.int 56) (congrArg Value.int (c_99)) ?_
    refine lv_tableIn (off := 186) (tgt := 187) hx hb dX9_two_1 (by decide) (by decide) (by decide) (by decide) ?_
    have h_100 : rg (56) (56) p0 := by have ha := (rg_any p0); have hb_ := (rg_k (x := 56) (c := 56) (by decide)); simp only [rg, fa_lt, fa_le, fa_eq, (by decide : (56 : Int32).toInt = 56)] at ha hb_ c_99; simp only [rg]; omega
    refine lv_iload_n hx hb dX9_two_187 rfl (lv_at hl 1 rfl) ?_
    refine lv_if_ne (tgt := 195) hx hb dX9_two_188 (by decide) (fun c_101 => ?_) (fun c_101 => ?_)
    · skip
      refine lv_iconst (v := 1) hx hb dX9_two_195 (by decide) ?_
      refine lv_goto (tgt := 200) hx hb dX9_two_196 (by decide) ?_
      have hP9 := hP.sub (ws' := []) [] rfl
      have hD9 := hD.sub (ws' := []) [] (by decide) rfl
      exact W.iret (v := 1) hx hb hr (fun t ht hW => ⟨⟨1, (), rfl, trivial, ⟨by rw [ht]; exact hP9, hD9⟩⟩, hS.F ht⟩) hS.2.2 dX9_two_200
    · skip
      have h_102 : rg (0) (0) p1 := by have ha := (rg_any p1); have hb_ := (rg_k (x := 0) (c := 0) (by decide)); simp only [rg, fa_lt, fa_le, fa_eq, (by decide : (0 : Int32).toInt = 0)] at ha hb_ c_101; simp only [rg]; omega
      refine lv_iload_n hx hb dX9_two_191 rfl (lv_at hl 2 rfl) ?_
      refine lv_if_eq (tgt := 199) hx hb dX9_two_192 (by decide) (fun c_103 => ?_) (fun c_103 => ?_)
      · skip
        have h_104 : rg (0) (0) p2 := by have ha := (rg_any p2); have hb_ := (rg_k (x := 0) (c := 0) (by decide)); simp only [rg, fa_lt, fa_le, fa_eq, (by decide : (0 : Int32).toInt = 0)] at ha hb_ c_103; simp only [rg]; omega
        refine lv_iconst (v := 0) hx hb dX9_two_199 (by decide) ?_
        have hP9 := hP.sub (ws' := []) [] rfl
        have hD9 := hD.sub (ws' := []) [] (by decide) rfl
        exact W.iret (v := 0) hx hb hr (fun t ht hW => ⟨⟨0, (), rfl, trivial, ⟨by rw [ht]; exact hP9, hD9⟩⟩, hS.F ht⟩) hS.2.2 dX9_two_200
      · skip
        refine lv_iconst (v := 1) hx hb dX9_two_195 (by decide) ?_
        refine lv_goto (tgt := 200) hx hb dX9_two_196 (by decide) ?_
        have hP9 := hP.sub (ws' := []) [] rfl
        have hD9 := hD.sub (ws' := []) [] (by decide) rfl
        exact W.iret (v := 1) hx hb hr (fun t ht hW => ⟨⟨1, (), rfl, trivial, ⟨by rw [ht]; exact hP9, hD9⟩⟩, hS.F ht⟩) hS.2.2 dX9_two_200
  by_cases c_105 : p0 = 57
  · skip
    refine tp_v (.int 57) (congrArg Value.int (c_105)) ?_
    refine lv_tableIn (off := 186) (tgt := 187) hx hb dX9_two_1 (by decide) (by decide) (by decide) (by decide) ?_
    have h_106 : rg (57) (57) p0 := by have ha := (rg_any p0); have hb_ := (rg_k (x := 57) (c := 57) (by decide)); simp only [rg, fa_lt, fa_le, fa_eq, (by decide : (57 : Int32).toInt = 57)] at ha hb_ c_105; simp only [rg]; omega
    refine lv_iload_n hx hb dX9_two_187 rfl (lv_at hl 1 rfl) ?_
    refine lv_if_ne (tgt := 195) hx hb dX9_two_188 (by decide) (fun c_107 => ?_) (fun c_107 => ?_)
    · skip
      refine lv_iconst (v := 1) hx hb dX9_two_195 (by decide) ?_
      refine lv_goto (tgt := 200) hx hb dX9_two_196 (by decide) ?_
      have hP9 := hP.sub (ws' := []) [] rfl
      have hD9 := hD.sub (ws' := []) [] (by decide) rfl
      exact W.iret (v := 1) hx hb hr (fun t ht hW => ⟨⟨1, (), rfl, trivial, ⟨by rw [ht]; exact hP9, hD9⟩⟩, hS.F ht⟩) hS.2.2 dX9_two_200
    · skip
      have h_108 : rg (0) (0) p1 := by have ha := (rg_any p1); have hb_ := (rg_k (x := 0) (c := 0) (by decide)); simp only [rg, fa_lt, fa_le, fa_eq, (by decide : (0 : Int32).toInt = 0)] at ha hb_ c_107; simp only [rg]; omega
      refine lv_iload_n hx hb dX9_two_191 rfl (lv_at hl 2 rfl) ?_
      refine lv_if_eq (tgt := 199) hx hb dX9_two_192 (by decide) (fun c_109 => ?_) (fun c_109 => ?_)
      · skip
        have h_110 : rg (0) (0) p2 := by have ha := (rg_any p2); have hb_ := (rg_k (x := 0) (c := 0) (by decide)); simp only [rg, fa_lt, fa_le, fa_eq, (by decide : (0 : Int32).toInt = 0)] at ha hb_ c_109; simp only [rg]; omega
        refine lv_iconst (v := 0) hx hb dX9_two_199 (by decide) ?_
        have hP9 := hP.sub (ws' := []) [] rfl
        have hD9 := hD.sub (ws' := []) [] (by decide) rfl
        exact W.iret (v := 0) hx hb hr (fun t ht hW => ⟨⟨0, (), rfl, trivial, ⟨by rw [ht]; exact hP9, hD9⟩⟩, hS.F ht⟩) hS.2.2 dX9_two_200
      · skip
        refine lv_iconst (v := 1) hx hb dX9_two_195 (by decide) ?_
        refine lv_goto (tgt := 200) hx hb dX9_two_196 (by decide) ?_
        have hP9 := hP.sub (ws' := []) [] rfl
        have hD9 := hD.sub (ws' := []) [] (by decide) rfl
        exact W.iret (v := 1) hx hb hr (fun t ht hW => ⟨⟨1, (), rfl, trivial, ⟨by rw [ht]; exact hP9, hD9⟩⟩, hS.F ht⟩) hS.2.2 dX9_two_200
  by_cases c_111 : p0 = 58
  · skip
    refine tp_v (.int 58) (congrArg Value.int (c_111)) ?_
    refine lv_tableIn (off := 186) (tgt := 187) hx hb dX9_two_1 (by decide) (by decide) (by decide) (by decide) ?_
    have h_112 : rg (58) (58) p0 := by have ha := (rg_any p0); have hb_ := (rg_k (x := 58) (c := 58) (by decide)); simp only [rg, fa_lt, fa_le, fa_eq, (by decide : (58 : Int32).toInt = 58)] at ha hb_ c_111; simp only [rg]; omega
    refine lv_iload_n hx hb dX9_two_187 rfl (lv_at hl 1 rfl) ?_
    refine lv_if_ne (tgt := 195) hx hb dX9_two_188 (by decide) (fun c_113 => ?_) (fun c_113 => ?_)
    · skip
      refine lv_iconst (v := 1) hx hb dX9_two_195 (by decide) ?_
      refine lv_goto (tgt := 200) hx hb dX9_two_196 (by decide) ?_
      have hP9 := hP.sub (ws' := []) [] rfl
      have hD9 := hD.sub (ws' := []) [] (by decide) rfl
      exact W.iret (v := 1) hx hb hr (fun t ht hW => ⟨⟨1, (), rfl, trivial, ⟨by rw [ht]; exact hP9, hD9⟩⟩, hS.F ht⟩) hS.2.2 dX9_two_200
    · skip
      have h_114 : rg (0) (0) p1 := by have ha := (rg_any p1); have hb_ := (rg_k (x := 0) (c := 0) (by decide)); simp only [rg, fa_lt, fa_le, fa_eq, (by decide : (0 : Int32).toInt = 0)] at ha hb_ c_113; simp only [rg]; omega
      refine lv_iload_n hx hb dX9_two_191 rfl (lv_at hl 2 rfl) ?_
      refine lv_if_eq (tgt := 199) hx hb dX9_two_192 (by decide) (fun c_115 => ?_) (fun c_115 => ?_)
      · skip
        have h_116 : rg (0) (0) p2 := by have ha := (rg_any p2); have hb_ := (rg_k (x := 0) (c := 0) (by decide)); simp only [rg, fa_lt, fa_le, fa_eq, (by decide : (0 : Int32).toInt = 0)] at ha hb_ c_115; simp only [rg]; omega
        refine lv_iconst (v := 0) hx hb dX9_two_199 (by decide) ?_
        have hP9 := hP.sub (ws' := []) [] rfl
        have hD9 := hD.sub (ws' := []) [] (by decide) rfl
        exact W.iret (v := 0) hx hb hr (fun t ht hW => ⟨⟨0, (), rfl, trivial, ⟨by rw [ht]; exact hP9, hD9⟩⟩, hS.F ht⟩) hS.2.2 dX9_two_200
      · skip
        refine lv_iconst (v := 1) hx hb dX9_two_195 (by decide) ?_
        refine lv_goto (tgt := 200) hx hb dX9_two_196 (by decide) ?_
        have hP9 := hP.sub (ws' := []) [] rfl
        have hD9 := hD.sub (ws' := []) [] (by decide) rfl
        exact W.iret (v := 1) hx hb hr (fun t ht hW => ⟨⟨1, (), rfl, trivial, ⟨by rw [ht]; exact hP9, hD9⟩⟩, hS.F ht⟩) hS.2.2 dX9_two_200
  by_cases c_117 : p0 = 59
  · skip
    refine tp_v (.int 59) (congrArg Value.int (c_117)) ?_
    refine lv_tableIn (off := 186) (tgt := 187) hx hb dX9_two_1 (by decide) (by decide) (by decide) (by decide) ?_
    have h_118 : rg (59) (59) p0 := by have ha := (rg_any p0); have hb_ := (rg_k (x := 59) (c := 59) (by decide)); simp only [rg, fa_lt, fa_le, fa_eq, (by decide : (59 : Int32).toInt = 59)] at ha hb_ c_117; simp only [rg]; omega
    refine lv_iload_n hx hb dX9_two_187 rfl (lv_at hl 1 rfl) ?_
    refine lv_if_ne (tgt := 195) hx hb dX9_two_188 (by decide) (fun c_119 => ?_) (fun c_119 => ?_)
    · skip
      refine lv_iconst (v := 1) hx hb dX9_two_195 (by decide) ?_
      refine lv_goto (tgt := 200) hx hb dX9_two_196 (by decide) ?_
      have hP9 := hP.sub (ws' := []) [] rfl
      have hD9 := hD.sub (ws' := []) [] (by decide) rfl
      exact W.iret (v := 1) hx hb hr (fun t ht hW => ⟨⟨1, (), rfl, trivial, ⟨by rw [ht]; exact hP9, hD9⟩⟩, hS.F ht⟩) hS.2.2 dX9_two_200
    · skip
      have h_120 : rg (0) (0) p1 := by have ha := (rg_any p1); have hb_ := (rg_k (x := 0) (c := 0) (by decide)); simp only [rg, fa_lt, fa_le, fa_eq, (by decide : (0 : Int32).toInt = 0)] at ha hb_ c_119; simp only [rg]; omega
      refine lv_iload_n hx hb dX9_two_191 rfl (lv_at hl 2 rfl) ?_
      refine lv_if_eq (tgt := 199) hx hb dX9_two_192 (by decide) (fun c_121 => ?_) (fun c_121 => ?_)
      · skip
        have h_122 : rg (0) (0) p2 := by have ha := (rg_any p2); have hb_ := (rg_k (x := 0) (c := 0) (by decide)); simp only [rg, fa_lt, fa_le, fa_eq, (by decide : (0 : Int32).toInt = 0)] at ha hb_ c_121; simp only [rg]; omega
        refine lv_iconst (v := 0) hx hb dX9_two_199 (by decide) ?_
        have hP9 := hP.sub (ws' := []) [] rfl
        have hD9 := hD.sub (ws' := []) [] (by decide) rfl
        exact W.iret (v := 0) hx hb hr (fun t ht hW => ⟨⟨0, (), rfl, trivial, ⟨by rw [ht]; exact hP9, hD9⟩⟩, hS.F ht⟩) hS.2.2 dX9_two_200
      · skip
        refine lv_iconst (v := 1) hx hb dX9_two_195 (by decide) ?_
        refine lv_goto (tgt := 200) hx hb dX9_two_196 (by decide) ?_
        have hP9 := hP.sub (ws' := []) [] rfl
        have hD9 := hD.sub (ws' := []) [] (by decide) rfl
        exact W.iret (v := 1) hx hb hr (fun t ht hW => ⟨⟨1, (), rfl, trivial, ⟨by rw [ht]; exact hP9, hD9⟩⟩, hS.F ht⟩) hS.2.2 dX9_two_200
  by_cases c_123 : p0 = 60
  · skip
    refine tp_v (.int 60) (congrArg Value.int (c_123)) ?_
    refine lv_tableIn (off := 139) (tgt := 140) hx hb dX9_two_1 (by decide) (by decide) (by decide) (by decide) ?_
    have h_124 : rg (60) (60) p0 := by have ha := (rg_any p0); have hb_ := (rg_k (x := 60) (c := 60) (by decide)); simp only [rg, fa_lt, fa_le, fa_eq, (by decide : (60 : Int32).toInt = 60)] at ha hb_ c_123; simp only [rg]; omega
    refine lv_iload_n hx hb dX9_two_140 rfl (lv_at hl 1 rfl) ?_
    refine lv_iload_n hx hb dX9_two_141 rfl (lv_at hl 2 rfl) ?_
    refine lv_icmp_ge (tgt := 149) hx hb dX9_two_142 (by decide) (fun c_125 => ?_) (fun c_125 => ?_)
    · skip
      refine lv_iconst (v := 0) hx hb dX9_two_149 (by decide) ?_
      have hP9 := hP.sub (ws' := []) [] rfl
      have hD9 := hD.sub (ws' := []) [] (by decide) rfl
      exact W.iret (v := 0) hx hb hr (fun t ht hW => ⟨⟨0, (), rfl, trivial, ⟨by rw [ht]; exact hP9, hD9⟩⟩, hS.F ht⟩) hS.2.2 dX9_two_150
    · skip
      have h_126 : rg (-2147483648) (2147483646) p1 := by have ha := (rg_any p1); have hb_ := (rg_any p2); simp only [rg, fa_lt, fa_le, fa_eq] at ha hb_ c_125; simp only [rg]; omega
      have h_127 : rg (-2147483647) (2147483647) p2 := by have ha := h_126; have hb_ := (rg_any p2); have hc_ := c_125; simp only [rg, fa_lt, fa_le, fa_eq] at ha hb_ hc_; simp only [rg]; omega
      have h_128 : rg (-2147483647) (2147483647) p2 := by have ha := (rg_any p1); have hb_ := (rg_any p2); simp only [rg, fa_lt, fa_le, fa_eq] at ha hb_ c_125; simp only [rg]; omega
      refine lv_iconst (v := 1) hx hb dX9_two_145 (by decide) ?_
      refine lv_goto (tgt := 150) hx hb dX9_two_146 (by decide) ?_
      have hP9 := hP.sub (ws' := []) [] rfl
      have hD9 := hD.sub (ws' := []) [] (by decide) rfl
      exact W.iret (v := 1) hx hb hr (fun t ht hW => ⟨⟨1, (), rfl, trivial, ⟨by rw [ht]; exact hP9, hD9⟩⟩, hS.F ht⟩) hS.2.2 dX9_two_150
  by_cases c_129 : p0 = 61
  · skip
    refine tp_v (.int 61) (congrArg Value.int (c_129)) ?_
    refine lv_tableIn (off := 161) (tgt := 162) hx hb dX9_two_1 (by decide) (by decide) (by decide) (by decide) ?_
    have h_130 : rg (61) (61) p0 := by have ha := (rg_any p0); have hb_ := (rg_k (x := 61) (c := 61) (by decide)); simp only [rg, fa_lt, fa_le, fa_eq, (by decide : (61 : Int32).toInt = 61)] at ha hb_ c_129; simp only [rg]; omega
    refine lv_iload_n hx hb dX9_two_162 rfl (lv_at hl 1 rfl) ?_
    refine lv_iload_n hx hb dX9_two_163 rfl (lv_at hl 2 rfl) ?_
    refine lv_icmp_ne (tgt := 171) hx hb dX9_two_164 (by decide) (fun c_131 => ?_) (fun c_131 => ?_)
    · skip
      refine lv_iconst (v := 0) hx hb dX9_two_171 (by decide) ?_
      have hP9 := hP.sub (ws' := []) [] rfl
      have hD9 := hD.sub (ws' := []) [] (by decide) rfl
      exact W.iret (v := 0) hx hb hr (fun t ht hW => ⟨⟨0, (), rfl, trivial, ⟨by rw [ht]; exact hP9, hD9⟩⟩, hS.F ht⟩) hS.2.2 dX9_two_172
    · skip
      refine lv_iconst (v := 1) hx hb dX9_two_167 (by decide) ?_
      refine lv_goto (tgt := 172) hx hb dX9_two_168 (by decide) ?_
      have hP9 := hP.sub (ws' := []) [] rfl
      have hD9 := hD.sub (ws' := []) [] (by decide) rfl
      exact W.iret (v := 1) hx hb hr (fun t ht hW => ⟨⟨1, (), rfl, trivial, ⟨by rw [ht]; exact hP9, hD9⟩⟩, hS.F ht⟩) hS.2.2 dX9_two_172
  by_cases c_132 : p0 = 62
  · skip
    refine tp_v (.int 62) (congrArg Value.int (c_132)) ?_
    refine lv_tableIn (off := 150) (tgt := 151) hx hb dX9_two_1 (by decide) (by decide) (by decide) (by decide) ?_
    have h_133 : rg (62) (62) p0 := by have ha := (rg_any p0); have hb_ := (rg_k (x := 62) (c := 62) (by decide)); simp only [rg, fa_lt, fa_le, fa_eq, (by decide : (62 : Int32).toInt = 62)] at ha hb_ c_132; simp only [rg]; omega
    refine lv_iload_n hx hb dX9_two_151 rfl (lv_at hl 1 rfl) ?_
    refine lv_iload_n hx hb dX9_two_152 rfl (lv_at hl 2 rfl) ?_
    refine lv_icmp_le (tgt := 160) hx hb dX9_two_153 (by decide) (fun c_134 => ?_) (fun c_134 => ?_)
    · skip
      refine lv_iconst (v := 0) hx hb dX9_two_160 (by decide) ?_
      have hP9 := hP.sub (ws' := []) [] rfl
      have hD9 := hD.sub (ws' := []) [] (by decide) rfl
      exact W.iret (v := 0) hx hb hr (fun t ht hW => ⟨⟨0, (), rfl, trivial, ⟨by rw [ht]; exact hP9, hD9⟩⟩, hS.F ht⟩) hS.2.2 dX9_two_161
    · skip
      have h_135 : rg (-2147483647) (2147483647) p1 := by have ha := (rg_any p1); have hb_ := (rg_any p2); simp only [rg, fa_lt, fa_le, fa_eq] at ha hb_ c_134; simp only [rg]; omega
      have h_136 : rg (-2147483648) (2147483646) p2 := by have ha := h_135; have hb_ := (rg_any p2); have hc_ := c_134; simp only [rg, fa_lt, fa_le, fa_eq] at ha hb_ hc_; simp only [rg]; omega
      have h_137 : rg (-2147483648) (2147483646) p2 := by have ha := (rg_any p1); have hb_ := (rg_any p2); simp only [rg, fa_lt, fa_le, fa_eq] at ha hb_ c_134; simp only [rg]; omega
      refine lv_iconst (v := 1) hx hb dX9_two_156 (by decide) ?_
      refine lv_goto (tgt := 161) hx hb dX9_two_157 (by decide) ?_
      have hP9 := hP.sub (ws' := []) [] rfl
      have hD9 := hD.sub (ws' := []) [] (by decide) rfl
      exact W.iret (v := 1) hx hb hr (fun t ht hW => ⟨⟨1, (), rfl, trivial, ⟨by rw [ht]; exact hP9, hD9⟩⟩, hS.F ht⟩) hS.2.2 dX9_two_161
  refine lv_tableOut (tgt := 187) hx hb dX9_two_1 (by have ha := (rg_any p0); simp only [rg, fa_eq, (by decide : (38 : Int32).toInt = 38), (by decide : (39 : Int32).toInt = 39), (by decide : (40 : Int32).toInt = 40), (by decide : (41 : Int32).toInt = 41), (by decide : (42 : Int32).toInt = 42), (by decide : (43 : Int32).toInt = 43), (by decide : (44 : Int32).toInt = 44), (by decide : (45 : Int32).toInt = 45), (by decide : (46 : Int32).toInt = 46), (by decide : (47 : Int32).toInt = 47), (by decide : (48 : Int32).toInt = 48), (by decide : (49 : Int32).toInt = 49), (by decide : (50 : Int32).toInt = 50), (by decide : (51 : Int32).toInt = 51), (by decide : (52 : Int32).toInt = 52), (by decide : (53 : Int32).toInt = 53), (by decide : (54 : Int32).toInt = 54), (by decide : (55 : Int32).toInt = 55), (by decide : (56 : Int32).toInt = 56), (by decide : (57 : Int32).toInt = 57), (by decide : (58 : Int32).toInt = 58), (by decide : (59 : Int32).toInt = 59), (by decide : (60 : Int32).toInt = 60), (by decide : (61 : Int32).toInt = 61), (by decide : (62 : Int32).toInt = 62)] at ha c_1 c_7 c_13 c_19 c_25 c_28 c_31 c_37 c_40 c_46 c_51 c_57 c_63 c_69 c_75 c_81 c_87 c_93 c_99 c_105 c_111 c_117 c_123 c_129 c_132; omega) (by decide) ?_
  refine lv_iload_n hx hb dX9_two_187 rfl (lv_at hl 1 rfl) ?_
  refine lv_if_ne (tgt := 195) hx hb dX9_two_188 (by decide) (fun c_138 => ?_) (fun c_138 => ?_)
  · skip
    refine lv_iconst (v := 1) hx hb dX9_two_195 (by decide) ?_
    refine lv_goto (tgt := 200) hx hb dX9_two_196 (by decide) ?_
    have hP9 := hP.sub (ws' := []) [] rfl
    have hD9 := hD.sub (ws' := []) [] (by decide) rfl
    exact W.iret (v := 1) hx hb hr (fun t ht hW => ⟨⟨1, (), rfl, trivial, ⟨by rw [ht]; exact hP9, hD9⟩⟩, hS.F ht⟩) hS.2.2 dX9_two_200
  · skip
    have h_139 : rg (0) (0) p1 := by have ha := (rg_any p1); have hb_ := (rg_k (x := 0) (c := 0) (by decide)); simp only [rg, fa_lt, fa_le, fa_eq, (by decide : (0 : Int32).toInt = 0)] at ha hb_ c_138; simp only [rg]; omega
    refine lv_iload_n hx hb dX9_two_191 rfl (lv_at hl 2 rfl) ?_
    refine lv_if_eq (tgt := 199) hx hb dX9_two_192 (by decide) (fun c_140 => ?_) (fun c_140 => ?_)
    · skip
      have h_141 : rg (0) (0) p2 := by have ha := (rg_any p2); have hb_ := (rg_k (x := 0) (c := 0) (by decide)); simp only [rg, fa_lt, fa_le, fa_eq, (by decide : (0 : Int32).toInt = 0)] at ha hb_ c_140; simp only [rg]; omega
      refine lv_iconst (v := 0) hx hb dX9_two_199 (by decide) ?_
      have hP9 := hP.sub (ws' := []) [] rfl
      have hD9 := hD.sub (ws' := []) [] (by decide) rfl
      exact W.iret (v := 0) hx hb hr (fun t ht hW => ⟨⟨0, (), rfl, trivial, ⟨by rw [ht]; exact hP9, hD9⟩⟩, hS.F ht⟩) hS.2.2 dX9_two_200
    · skip
      refine lv_iconst (v := 1) hx hb dX9_two_195 (by decide) ?_
      refine lv_goto (tgt := 200) hx hb dX9_two_196 (by decide) ?_
      have hP9 := hP.sub (ws' := []) [] rfl
      have hD9 := hD.sub (ws' := []) [] (by decide) rfl
      exact W.iret (v := 1) hx hb hr (fun t ht hW => ⟨⟨1, (), rfl, trivial, ⟨by rw [ht]; exact hP9, hD9⟩⟩, hS.F ht⟩) hS.2.2 dX9_two_200
def v_s_X9_comes : List Cond := Cond.code yX9_comes cX9_comes 6 (some .int) :: ([Cond.fieldLink RX9 248 "MayRingsModel" "bank" "I", Cond.fieldLink RX9 33 "MayRingsModel" "lTo" "[I", Cond.fieldLink RX9 55 "MayRingsModel" "isLaw" "[Z", Cond.methodLink RX9 329 yX9_sinceOf, Cond.instanceMethod yX9_sinceOf, Cond.selects RX9 yX9_sinceOf yX9_sinceOf, Cond.initialized RX9, Cond.fieldLink RX9 74 "MayRingsModel" "pile" "[I", Cond.fieldLink RX9 62 "MayRingsModel" "code" "[I", Cond.methodLink RX9 204 yX9_isLetter, Cond.static yX9_isLetter, Cond.methodLink RX9 342 yX9_two, Cond.static yX9_two, Cond.methodLink RX9 338 yX9_amount, Cond.instanceMethod yX9_amount, Cond.selects RX9 yX9_amount yX9_amount] ++ (wsX90 ++ (v_s_X9_sinceOf ++ (v_s_X9_isLetter ++ (v_s_X9_two ++ (v_s_X9_amount ++ ([])))))))
theorem k_s_X9_comes : GoodIn lw_tbl v_s_X9_comes := gd_c (List.mem_of_getElem? (i := 1621) (by decide +kernel)) rfl (goodIn_app (gd_c (List.mem_of_getElem? (i := 1264) (by decide +kernel)) rfl (gd_c (List.mem_of_getElem? (i := 1250) (by decide +kernel)) rfl (gd_c (List.mem_of_getElem? (i := 1257) (by decide +kernel)) rfl (gd_c (List.mem_of_getElem? (i := 1606) (by decide +kernel)) rfl (gd_c (List.mem_of_getElem? (i := 1608) (by decide +kernel)) rfl (gd_c (List.mem_of_getElem? (i := 97) (by decide +kernel)) rfl (gd_c (List.mem_of_getElem? (i := 144) (by decide +kernel)) rfl (gd_c (List.mem_of_getElem? (i := 1263) (by decide +kernel)) rfl (gd_c (List.mem_of_getElem? (i := 1259) (by decide +kernel)) rfl (gd_c (List.mem_of_getElem? (i := 1464) (by decide +kernel)) rfl (gd_c (List.mem_of_getElem? (i := 1465) (by decide +kernel)) rfl (gd_c (List.mem_of_getElem? (i := 1634) (by decide +kernel)) rfl (gd_c (List.mem_of_getElem? (i := 1635) (by decide +kernel)) rfl (gd_c (List.mem_of_getElem? (i := 1622) (by decide +kernel)) rfl (gd_c (List.mem_of_getElem? (i := 1624) (by decide +kernel)) rfl (gd_c (List.mem_of_getElem? (i := 100) (by decide +kernel)) rfl (gd_nil))))))))))))))))) (goodIn_app kfX9 (goodIn_app k_s_X9_sinceOf (goodIn_app k_s_X9_isLetter (goodIn_app k_s_X9_two (goodIn_app k_s_X9_amount (gd_nil)))))))
set_option maxHeartbeats 2000000 in
set_option maxRecDepth 100000 in
theorem c_s_X9_comes (l : Launch) (dC : Nat → ClassId) (dI : Nat → Nat → Nat) (cB cI cJ cZ cP : ClassId) (h0 : Nat) (h1 : Nat) (h2 : Nat) (a0 : Int32) (a1 : Int32) (a2 : Int32) (a3 : Int32) (a4 : Int32) (a5 : Int32) (a6 : Int32) (a7 : Int32) (y0 : Int64) (h3 : Nat) (h4 : Nat) (h5 : Nat) (h6 : Nat) (h7 : Nat) (g6 : Nat → Int32) (hg6 : rgA (0) (1000) g6) (h8 : Nat) (g7 : Nat → Int32) (h9 : Nat) (h10 : Nat) (h11 : Nat) (g10 : Nat → Int32) (h12 : Nat) (h13 : Nat) (h14 : Nat) (g13 : Nat → Int32) (hg13 : rgA (0) (1) g13) (h15 : Nat) (h16 : Nat) (g15 : Nat → Int32) (h17 : Nat) (g16 : Nat → Int32) (h18 : Nat) (h19 : Nat) (h20 : Nat) (g19 : Nat → Int32) (a8 : Int32) (ha8 : rg (0) (1) a8) (a9 : Int32) (a10 : Int32) (a11 : Int32) (a12 : Int32) (h21 : Nat) (g20 : Nat → Int32) (h22 : Nat) (h23 : Nat) (a13 : Int32) (ha13 : rg (0) (200) a13) (a14 : Int32) (a15 : Int32) (a16 : Int32) (a17 : Int32) (h24 : Nat) (h25 : Nat) (h26 : Nat) (h27 : Nat) (a18 : Int32) (a19 : Int32) (a20 : Int32) (a21 : Int32) (a22 : Int32) (a23 : Int32) (a24 : Int32) (h28 : Nat) (h29 : Nat) (h30 : Nat) (a25 : Int32) (h31 : Nat) (h32 : Nat) (h33 : Nat) (h34 : Nat) (h35 : Nat) (h36 : Nat) (h37 : Nat) (a26 : Int32) (a27 : Int32) (h38 : Nat) (h39 : Nat) (h40 : Nat) (h41 : Nat) (h42 : Nat) (h43 : Nat) (p0 : Int32) (hp0 : rg (0) (8) p0) (p1 : Int32) (hp1 : rg (0) (8) p1) (kr0 : gcd_ g15 g6 a8) (sz : Nat) : Met l yX9_comes v_s_X9_comes ({ frames := 2, cells := 0, slots := 0, locals := 48 }) (va_Pc [.ref h0, .int p0, .int p1] (fun U => U.heap.size = sz ∧ va_P (dC, dI) vwCl [(h0, .inr (9, [.ref h1, .ref h2, .int a0, .int a1, .int a2, .int a3, .int a4, .int a5, .int a6, .int a7, .long y0, .ref h3, .ref h4, .ref h5, .ref h6, .ref h7, .ref h8, .ref h9, .ref h10, .ref h11, .ref h12, .ref h13, .ref h14, .ref h15, .ref h16, .ref h17, .ref h18, .ref h19, .ref h20, .int a8, .int a9, .int a10, .int a11, .int a12, .ref h21, .ref h22, .ref h23, .int a13, .int a14, .int a15, .int a16, .int a17, .ref h24, .ref h25, .ref h26, .ref h27, .int a18, .int a19, .int a20, .int a21, .int a22, .int a23, .int a24, .ref h28, .ref h29, .ref h30, .int a25, .ref h31, .ref h32, .ref h33, .ref h34, .ref h35, .ref h36, .ref h37, .int a26, .int a27, .ref h38, .ref h39, .ref h40, .ref h41, .ref h42, .ref h43])), (h7, .inl (cI, 2, .inl g6)), (h8, .inl (cI, 18, .inl g7)), (h11, .inl (cI, 162, .inl g10)), (h14, .inl (cZ, 2, .inl g13)), (h16, .inl (cI, 1000, .inl g15)), (h17, .inl (cI, 1000, .inl g16)), (h20, .inl (cI, 70, .inl g19)), (h21, .inl (cI, 81, .inl g20))] U.heap ∧ va_K (dC, dI) vwCl (ty5 cB cI cJ cZ cP) U ∧ va_D (fun _ => True) [(h0, .inr (9, [.ref h1, .ref h2, .int a0, .int a1, .int a2, .int a3, .int a4, .int a5, .int a6, .int a7, .long y0, .ref h3, .ref h4, .ref h5, .ref h6, .ref h7, .ref h8, .ref h9, .ref h10, .ref h11, .ref h12, .ref h13, .ref h14, .ref h15, .ref h16, .ref h17, .ref h18, .ref h19, .ref h20, .int a8, .int a9, .int a10, .int a11, .int a12, .ref h21, .ref h22, .ref h23, .int a13, .int a14, .int a15, .int a16, .int a17, .ref h24, .ref h25, .ref h26, .ref h27, .int a18, .int a19, .int a20, .int a21, .int a22, .int a23, .int a24, .ref h28, .ref h29, .ref h30, .int a25, .ref h31, .ref h32, .ref h33, .ref h34, .ref h35, .ref h36, .ref h37, .int a26, .int a27, .ref h38, .ref h39, .ref h40, .ref h41, .ref h42, .ref h43])), (h7, .inl (cI, 2, .inl g6)), (h8, .inl (cI, 18, .inl g7)), (h11, .inl (cI, 162, .inl g10)), (h14, .inl (cZ, 2, .inl g13)), (h16, .inl (cI, 1000, .inl g15)), (h17, .inl (cI, 1000, .inl g16)), (h20, .inl (cI, 70, .inl g19)), (h21, .inl (cI, 81, .inl g20))])) (va_Qi (fun (r : Int32) (u9 : Unit) => True) (fun u9 t => ∃ (z0 : Nat → Int32), va_P (dC, dI) vwCl [(h0, .inr (9, [.ref h1, .ref h2, .int a0, .int a1, .int a2, .int a3, .int a4, .int a5, .int a6, .int a7, .long y0, .ref h3, .ref h4, .ref h5, .ref h6, .ref h7, .ref h8, .ref h9, .ref h10, .ref h11, .ref h12, .ref h13, .ref h14, .ref h15, .ref h16, .ref h17, .ref h18, .ref h19, .ref h20, .int a8, .int a9, .int a10, .int a11, .int a12, .ref h21, .ref h22, .ref h23, .int a13, .int a14, .int a15, .int a16, .int a17, .ref h24, .ref h25, .ref h26, .ref h27, .int a18, .int a19, .int a20, .int a21, .int a22, .int a23, .int a24, .ref h28, .ref h29, .ref h30, .int a25, .ref h31, .ref h32, .ref h33, .ref h34, .ref h35, .ref h36, .ref h37, .int a26, .int a27, .ref h38, .ref h39, .ref h40, .ref h41, .ref h42, .ref h43])), (h7, .inl (cI, 2, .inl g6)), (h8, .inl (cI, 18, .inl g7)), (h11, .inl (cI, 162, .inl g10)), (h14, .inl (cZ, 2, .inl g13)), (h16, .inl (cI, 1000, .inl g15)), (h17, .inl (cI, 1000, .inl g16)), (h20, .inl (cI, 70, .inl z0)), (h21, .inl (cI, 81, .inl g20))] t.heap ∧ va_D (va_A [(h0, .inr (9, [.ref h1, .ref h2, .int a0, .int a1, .int a2, .int a3, .int a4, .int a5, .int a6, .int a7, .long y0, .ref h3, .ref h4, .ref h5, .ref h6, .ref h7, .ref h8, .ref h9, .ref h10, .ref h11, .ref h12, .ref h13, .ref h14, .ref h15, .ref h16, .ref h17, .ref h18, .ref h19, .ref h20, .int a8, .int a9, .int a10, .int a11, .int a12, .ref h21, .ref h22, .ref h23, .int a13, .int a14, .int a15, .int a16, .int a17, .ref h24, .ref h25, .ref h26, .ref h27, .int a18, .int a19, .int a20, .int a21, .int a22, .int a23, .int a24, .ref h28, .ref h29, .ref h30, .int a25, .ref h31, .ref h32, .ref h33, .ref h34, .ref h35, .ref h36, .ref h37, .int a26, .int a27, .ref h38, .ref h39, .ref h40, .ref h41, .ref h42, .ref h43])), (h7, .inl (cI, 2, .inl g6)), (h8, .inl (cI, 18, .inl g7)), (h11, .inl (cI, 162, .inl g10)), (h14, .inl (cZ, 2, .inl g13)), (h16, .inl (cI, 1000, .inl g15)), (h17, .inl (cI, 1000, .inl g16)), (h20, .inl (cI, 70, .inl g19)), (h21, .inl (cI, 81, .inl g20))] sz) [(h0, .inr (9, [.ref h1, .ref h2, .int a0, .int a1, .int a2, .int a3, .int a4, .int a5, .int a6, .int a7, .long y0, .ref h3, .ref h4, .ref h5, .ref h6, .ref h7, .ref h8, .ref h9, .ref h10, .ref h11, .ref h12, .ref h13, .ref h14, .ref h15, .ref h16, .ref h17, .ref h18, .ref h19, .ref h20, .int a8, .int a9, .int a10, .int a11, .int a12, .ref h21, .ref h22, .ref h23, .int a13, .int a14, .int a15, .int a16, .int a17, .ref h24, .ref h25, .ref h26, .ref h27, .int a18, .int a19, .int a20, .int a21, .int a22, .int a23, .int a24, .ref h28, .ref h29, .ref h30, .int a25, .ref h31, .ref h32, .ref h33, .ref h34, .ref h35, .ref h36, .ref h37, .int a26, .int a27, .ref h38, .ref h39, .ref h40, .ref h41, .ref h42, .ref h43])), (h7, .inl (cI, 2, .inl g6)), (h8, .inl (cI, 18, .inl g7)), (h11, .inl (cI, 162, .inl g10)), (h14, .inl (cZ, 2, .inl g13)), (h16, .inl (cI, 1000, .inl g15)), (h17, .inl (cI, 1000, .inl g16)), (h20, .inl (cI, 70, .inl z0)), (h21, .inl (cI, 81, .inl g20))]) (va_A [(h0, .inr (9, [.ref h1, .ref h2, .int a0, .int a1, .int a2, .int a3, .int a4, .int a5, .int a6, .int a7, .long y0, .ref h3, .ref h4, .ref h5, .ref h6, .ref h7, .ref h8, .ref h9, .ref h10, .ref h11, .ref h12, .ref h13, .ref h14, .ref h15, .ref h16, .ref h17, .ref h18, .ref h19, .ref h20, .int a8, .int a9, .int a10, .int a11, .int a12, .ref h21, .ref h22, .ref h23, .int a13, .int a14, .int a15, .int a16, .int a17, .ref h24, .ref h25, .ref h26, .ref h27, .int a18, .int a19, .int a20, .int a21, .int a22, .int a23, .int a24, .ref h28, .ref h29, .ref h30, .int a25, .ref h31, .ref h32, .ref h33, .ref h34, .ref h35, .ref h36, .ref h37, .int a26, .int a27, .ref h38, .ref h39, .ref h40, .ref h41, .ref h42, .ref h43])), (h7, .inl (cI, 2, .inl g6)), (h8, .inl (cI, 18, .inl g7)), (h11, .inl (cI, 162, .inl g10)), (h14, .inl (cZ, 2, .inl g13)), (h16, .inl (cI, 1000, .inl g15)), (h17, .inl (cI, 1000, .inl g16)), (h20, .inl (cI, 70, .inl g19)), (h21, .inl (cI, 81, .inl g20))] sz)) 0 0 (va_A [(h0, .inr (9, [.ref h1, .ref h2, .int a0, .int a1, .int a2, .int a3, .int a4, .int a5, .int a6, .int a7, .long y0, .ref h3, .ref h4, .ref h5, .ref h6, .ref h7, .ref h8, .ref h9, .ref h10, .ref h11, .ref h12, .ref h13, .ref h14, .ref h15, .ref h16, .ref h17, .ref h18, .ref h19, .ref h20, .int a8, .int a9, .int a10, .int a11, .int a12, .ref h21, .ref h22, .ref h23, .int a13, .int a14, .int a15, .int a16, .int a17, .ref h24, .ref h25, .ref h26, .ref h27, .int a18, .int a19, .int a20, .int a21, .int a22, .int a23, .int a24, .ref h28, .ref h29, .ref h30, .int a25, .ref h31, .ref h32, .ref h33, .ref h34, .ref h35, .ref h36, .ref h37, .int a26, .int a27, .ref h38, .ref h39, .ref h40, .ref h41, .ref h42, .ref h43])), (h7, .inl (cI, 2, .inl g6)), (h8, .inl (cI, 18, .inl g7)), (h11, .inl (cI, 162, .inl g10)), (h14, .inl (cZ, 2, .inl g13)), (h16, .inl (cI, 1000, .inl g15)), (h17, .inl (cI, 1000, .inl g16)), (h20, .inl (cI, 70, .inl g19)), (h21, .inl (cI, 81, .inl g20))] sz) := by
  refine Met.ofW (cc := cX9_comes) (maxL := 6) (ret := (some .int)) (by decide) rfl ?_
  intro p e s m args below meth c s₁ B hml hv
  obtain ⟨rfl, hsz, hP, hK, hD0⟩ := hv
  have hx := B.exec
  have hb := B.bytes
  have hr := B.returns
  have hts := atoms_spec (ws := v_s_X9_comes) B.pre
  have hown : s.vm.findClass RX9 = some m.cls := findClass_of_methodNamed B.named
  have hlocks := B.notSynchronized
  have hinX9 : ∀ w ∈ wsX90, w ∈ v_s_X9_comes := fun _ h => List.mem_cons_of_mem _ (List.mem_append_right _ (List.mem_append_left _ h))
  subst hsz
  have hD := hD0.self (sz := s.heap.size)
  generalize hAe : va_A [(h0, .inr (9, [.ref h1, .ref h2, .int a0, .int a1, .int a2, .int a3, .int a4, .int a5, .int a6, .int a7, .long y0, .ref h3, .ref h4, .ref h5, .ref h6, .ref h7, .ref h8, .ref h9, .ref h10, .ref h11, .ref h12, .ref h13, .ref h14, .ref h15, .ref h16, .ref h17, .ref h18, .ref h19, .ref h20, .int a8, .int a9, .int a10, .int a11, .int a12, .ref h21, .ref h22, .ref h23, .int a13, .int a14, .int a15, .int a16, .int a17, .ref h24, .ref h25, .ref h26, .ref h27, .int a18, .int a19, .int a20, .int a21, .int a22, .int a23, .int a24, .ref h28, .ref h29, .ref h30, .int a25, .ref h31, .ref h32, .ref h33, .ref h34, .ref h35, .ref h36, .ref h37, .int a26, .int a27, .ref h38, .ref h39, .ref h40, .ref h41, .ref h42, .ref h43])), (h7, .inl (cI, 2, .inl g6)), (h8, .inl (cI, 18, .inl g7)), (h11, .inl (cI, 162, .inl g10)), (h14, .inl (cZ, 2, .inl g13)), (h16, .inl (cI, 1000, .inl g15)), (h17, .inl (cI, 1000, .inl g16)), (h20, .inl (cI, 70, .inl g19)), (h21, .inl (cI, 81, .inl g20))] s.heap.size = A at hD ⊢
  have hA : ∀ q : Nat, s.heap.size ≤ q → A q := fun q h => by rw [← hAe]; exact Or.inr h
  have hP : va_P (dC, dI) vwCl [(h0, .inr (9, [.ref h1, .ref h2, .int a0, .int a1, .int a2, .int a3, .int a4, .int a5, .int a6, .int a7, .long y0, .ref h3, .ref h4, .ref h5, .ref h6, .ref h7, .ref h8, .ref h9, .ref h10, .ref h11, .ref h12, .ref h13, .ref h14, .ref h15, .ref h16, .ref h17, .ref h18, .ref h19, .ref h20, .int a8, .int a9, .int a10, .int a11, .int a12, .ref h21, .ref h22, .ref h23, .int a13, .int a14, .int a15, .int a16, .int a17, .ref h24, .ref h25, .ref h26, .ref h27, .int a18, .int a19, .int a20, .int a21, .int a22, .int a23, .int a24, .ref h28, .ref h29, .ref h30, .int a25, .ref h31, .ref h32, .ref h33, .ref h34, .ref h35, .ref h36, .ref h37, .int a26, .int a27, .ref h38, .ref h39, .ref h40, .ref h41, .ref h42, .ref h43])), (h7, .inl (cI, 2, .inl g6)), (h8, .inl (cI, 18, .inl g7)), (h11, .inl (cI, 162, .inl g10)), (h14, .inl (cZ, 2, .inl g13)), (h16, .inl (cI, 1000, .inl g15)), (h17, .inl (cI, 1000, .inl g16)), (h20, .inl (cI, 70, .inl g19)), (h21, .inl (cI, 81, .inl g20))] s.heap := hP
  have hl := lv_entry ([.ref h0, .int p0, .int p1]) (n := 6) (Nat.le_of_ble_eq_true rfl)
  rw [lg_entry_eq]
  generalize (lg_sl ([.ref h0, .int p0, .int p1]) ++ List.replicate (6 - (lg_sl ([.ref h0, .int p0, .int p1])).length) Slot.unset).toArray = ls at hl ⊢
  have hl : lv_has ls 6 [(0, .ref h0), (1, .int p0), (2, .int p1)] := hl
  refine W_gen (A := A) hP (fun H locs hP hS => ?_)
  refine lv_iconst (v := 0) hx hb dX9_comes_0 (by decide) ?_
  refine lv_istore_n (lv' := [(3, .int 0), (0, .ref h0), (1, .int p0), (2, .int p1)]) hx hb dX9_comes_1 rfl hl (by decide) rfl (fun ls hl => ?_)
  refine lv_sipush (v := 500) hx hb dX9_comes_2 (by decide) ?_
  refine lv_aload_n hx hb dX9_comes_5 rfl (lv_at hl 1 rfl) ?_
  refine va_get (D := (dC, dI)) (ci := 9) (v := .int a8) (C := RX9) (T := TX9) (N := 72) hx hb hts hinX9 hown hK hP 0 rfl rfl 29 (by decide) (hts (.fieldLink RX9 248 "MayRingsModel" "bank" "I") (List.mem_of_getElem? (i := 1) rfl)) (fun _ h9 => h9) rfl dX9_comes_6 ?_
  refine lv_imul hx hb dX9_comes_9 ?_
  refine lv_topi (fun x_1 ex_1 => ?_)
  have hx_1 : rg (0) (500) x_1 := by rw [ex_1]; exact rg_mono (rg_mul (rg_k (x := 500) (c := 500) (by decide)) ha8 (by decide) (by decide) (by decide)) (by decide) (by decide)
  refine lv_istore (lv' := [(4, .int x_1), (3, .int 0), (0, .ref h0), (1, .int p0), (2, .int p1)]) hx hb dX9_comes_10 hl (by decide) rfl (fun ls hl => ?_)
  refine W_loopM (σ := (Nat → Int32) × Int32 × Int32) (fun u H locs ls => va_P (dC, dI) vwCl [(h0, .inr (9, [.ref h1, .ref h2, .int a0, .int a1, .int a2, .int a3, .int a4, .int a5, .int a6, .int a7, .long y0, .ref h3, .ref h4, .ref h5, .ref h6, .ref h7, .ref h8, .ref h9, .ref h10, .ref h11, .ref h12, .ref h13, .ref h14, .ref h15, .ref h16, .ref h17, .ref h18, .ref h19, .ref h20, .int a8, .int a9, .int a10, .int a11, .int a12, .ref h21, .ref h22, .ref h23, .int a13, .int a14, .int a15, .int a16, .int a17, .ref h24, .ref h25, .ref h26, .ref h27, .int a18, .int a19, .int a20, .int a21, .int a22, .int a23, .int a24, .ref h28, .ref h29, .ref h30, .int a25, .ref h31, .ref h32, .ref h33, .ref h34, .ref h35, .ref h36, .ref h37, .int a26, .int a27, .ref h38, .ref h39, .ref h40, .ref h41, .ref h42, .ref h43])), (h7, .inl (cI, 2, .inl g6)), (h8, .inl (cI, 18, .inl g7)), (h11, .inl (cI, 162, .inl g10)), (h14, .inl (cZ, 2, .inl g13)), (h16, .inl (cI, 1000, .inl g15)), (h17, .inl (cI, 1000, .inl g16)), (h20, .inl (cI, 70, .inl u.1)), (h21, .inl (cI, 81, .inl g20))] H ∧ va_D A [(h0, .inr (9, [.ref h1, .ref h2, .int a0, .int a1, .int a2, .int a3, .int a4, .int a5, .int a6, .int a7, .long y0, .ref h3, .ref h4, .ref h5, .ref h6, .ref h7, .ref h8, .ref h9, .ref h10, .ref h11, .ref h12, .ref h13, .ref h14, .ref h15, .ref h16, .ref h17, .ref h18, .ref h19, .ref h20, .int a8, .int a9, .int a10, .int a11, .int a12, .ref h21, .ref h22, .ref h23, .int a13, .int a14, .int a15, .int a16, .int a17, .ref h24, .ref h25, .ref h26, .ref h27, .int a18, .int a19, .int a20, .int a21, .int a22, .int a23, .int a24, .ref h28, .ref h29, .ref h30, .int a25, .ref h31, .ref h32, .ref h33, .ref h34, .ref h35, .ref h36, .ref h37, .int a26, .int a27, .ref h38, .ref h39, .ref h40, .ref h41, .ref h42, .ref h43])), (h7, .inl (cI, 2, .inl g6)), (h8, .inl (cI, 18, .inl g7)), (h11, .inl (cI, 162, .inl g10)), (h14, .inl (cZ, 2, .inl g13)), (h16, .inl (cI, 1000, .inl g15)), (h17, .inl (cI, 1000, .inl g16)), (h20, .inl (cI, 70, .inl u.1)), (h21, .inl (cI, 81, .inl g20))] ∧ va_S A s.heap H locs ∧ lv_has ls 6 [(4, .int u.2.1), (3, .int u.2.2), (0, .ref h0), (1, .int p0), (2, .int p1)] ∧ rg (0) (1000) u.2.1 ∧ rg (0) (70) u.2.2 ∧ (cmI g15 a8 u.2.2 u.2.1)) (fun u => ((1000) - u.2.1.toInt).toNat) 12 [] ?_ (g19, x_1, 0) H locs ls ⟨hP, hD, hS, hl, (rg_mono hx_1 (by decide) (by decide)), (rg_mono (rg_k (x := 0) (c := 0) (by decide)) (by decide) (by decide)), (show cmI g15 a8 (0 : Int32) x_1 from cm_0 (rg_mono ha8 (by decide) (by decide)) ex_1)⟩
  rintro ⟨f_43, x_44, x_45⟩ H locs ls ⟨hP, hD, hS, hl, hx_44, hx_45, kl12_45_0⟩ ih_88
  replace kl12_45_0 : cmI g15 a8 x_45 x_44 := kl12_45_0
  replace hP : va_P (dC, dI) vwCl [(h0, .inr (9, [.ref h1, .ref h2, .int a0, .int a1, .int a2, .int a3, .int a4, .int a5, .int a6, .int a7, .long y0, .ref h3, .ref h4, .ref h5, .ref h6, .ref h7, .ref h8, .ref h9, .ref h10, .ref h11, .ref h12, .ref h13, .ref h14, .ref h15, .ref h16, .ref h17, .ref h18, .ref h19, .ref h20, .int a8, .int a9, .int a10, .int a11, .int a12, .ref h21, .ref h22, .ref h23, .int a13, .int a14, .int a15, .int a16, .int a17, .ref h24, .ref h25, .ref h26, .ref h27, .int a18, .int a19, .int a20, .int a21, .int a22, .int a23, .int a24, .ref h28, .ref h29, .ref h30, .int a25, .ref h31, .ref h32, .ref h33, .ref h34, .ref h35, .ref h36, .ref h37, .int a26, .int a27, .ref h38, .ref h39, .ref h40, .ref h41, .ref h42, .ref h43])), (h7, .inl (cI, 2, .inl g6)), (h8, .inl (cI, 18, .inl g7)), (h11, .inl (cI, 162, .inl g10)), (h14, .inl (cZ, 2, .inl g13)), (h16, .inl (cI, 1000, .inl g15)), (h17, .inl (cI, 1000, .inl g16)), (h20, .inl (cI, 70, .inl f_43)), (h21, .inl (cI, 81, .inl g20))] H := hP
  replace hD : va_D A [(h0, .inr (9, [.ref h1, .ref h2, .int a0, .int a1, .int a2, .int a3, .int a4, .int a5, .int a6, .int a7, .long y0, .ref h3, .ref h4, .ref h5, .ref h6, .ref h7, .ref h8, .ref h9, .ref h10, .ref h11, .ref h12, .ref h13, .ref h14, .ref h15, .ref h16, .ref h17, .ref h18, .ref h19, .ref h20, .int a8, .int a9, .int a10, .int a11, .int a12, .ref h21, .ref h22, .ref h23, .int a13, .int a14, .int a15, .int a16, .int a17, .ref h24, .ref h25, .ref h26, .ref h27, .int a18, .int a19, .int a20, .int a21, .int a22, .int a23, .int a24, .ref h28, .ref h29, .ref h30, .int a25, .ref h31, .ref h32, .ref h33, .ref h34, .ref h35, .ref h36, .ref h37, .int a26, .int a27, .ref h38, .ref h39, .ref h40, .ref h41, .ref h42, .ref h43])), (h7, .inl (cI, 2, .inl g6)), (h8, .inl (cI, 18, .inl g7)), (h11, .inl (cI, 162, .inl g10)), (h14, .inl (cZ, 2, .inl g13)), (h16, .inl (cI, 1000, .inl g15)), (h17, .inl (cI, 1000, .inl g16)), (h20, .inl (cI, 70, .inl f_43)), (h21, .inl (cI, 81, .inl g20))] := hD
  replace hl : lv_has ls 6 [(4, .int x_44), (3, .int x_45), (0, .ref h0), (1, .int p0), (2, .int p1)] := hl
  replace hx_44 : rg (0) (1000) x_44 := hx_44
  replace hx_45 : rg (0) (70) x_45 := hx_45
  refine lv_iload hx hb dX9_comes_12 (lv_at hl 0 rfl) ?_
  refine lv_aload_n hx hb dX9_comes_14 rfl (lv_at hl 2 rfl) ?_
  refine va_get (D := (dC, dI)) (ci := 9) (v := .ref h7) (C := RX9) (T := TX9) (N := 72) hx hb hts hinX9 hown hK hP 0 rfl rfl 15 (by decide) (hts (.fieldLink RX9 33 "MayRingsModel" "lTo" "[I") (List.mem_of_getElem? (i := 2) rfl)) (fun _ h9 => h9) rfl dX9_comes_15 ?_
  refine lv_aload_n hx hb dX9_comes_18 rfl (lv_at hl 2 rfl) ?_
  refine va_get (D := (dC, dI)) (ci := 9) (v := .int a8) (C := RX9) (T := TX9) (N := 72) hx hb hts hinX9 hown hK hP 0 rfl rfl 29 (by decide) (hts (.fieldLink RX9 248 "MayRingsModel" "bank" "I") (List.mem_of_getElem? (i := 1) rfl)) (fun _ h9 => h9) rfl dX9_comes_19 ?_
  refine va_iald hx hb hK hP 1 1 rfl rfl (rg_in (n := 2) (rg_mono ha8 (by decide) (by decide))) dX9_comes_22 ?_
  refine lv_topi (fun x_89 ex_89 => ?_)
  have hx_89 : rg (0) (1000) x_89 := by rw [ex_89]; exact rg_mono (hg6 _) (by decide) (by decide)
  refine lv_icmp_ge (tgt := 133) hx hb dX9_comes_23 (by decide) (fun c_90 => ?_) (fun c_90 => ?_)
  · skip
    refine lv_aload_n hx hb dX9_comes_133 rfl (lv_at hl 2 rfl) ?_
    refine va_get (D := (dC, dI)) (ci := 9) (v := .ref h14) (C := RX9) (T := TX9) (N := 72) hx hb hts hinX9 hown hK hP 0 rfl rfl 22 (by decide) (hts (.fieldLink RX9 55 "MayRingsModel" "isLaw" "[Z") (List.mem_of_getElem? (i := 3) rfl)) (fun _ h9 => h9) rfl dX9_comes_134 ?_
    refine lv_aload_n hx hb dX9_comes_137 rfl (lv_at hl 2 rfl) ?_
    refine va_get (D := (dC, dI)) (ci := 9) (v := .int a8) (C := RX9) (T := TX9) (N := 72) hx hb hts hinX9 hown hK hP 0 rfl rfl 29 (by decide) (hts (.fieldLink RX9 248 "MayRingsModel" "bank" "I") (List.mem_of_getElem? (i := 1) rfl)) (fun _ h9 => h9) rfl dX9_comes_138 ?_
    refine va_zald hx hb hK hP 4 3 rfl rfl (rg_in (n := 2) (rg_mono ha8 (by decide) (by decide))) dX9_comes_141 ?_
    refine lv_topi (fun x_91 ex_91 => ?_)
    have hx_91 : rg (0) (1) x_91 := by rw [ex_91]; exact rg_mono (hg13 _) (by decide) (by decide)
    refine lv_if_eq (tgt := 154) hx hb dX9_comes_142 (by decide) (fun c_92 => ?_) (fun c_92 => ?_)
    · skip
      have h_93 : rg (0) (0) x_91 := by have ha := hx_91; have hb_ := (rg_k (x := 0) (c := 0) (by decide)); simp only [rg, fa_lt, fa_le, fa_eq, (by decide : (0 : Int32).toInt = 0)] at ha hb_ c_92; simp only [rg]; omega
      refine lv_aload_n hx hb dX9_comes_154 rfl (lv_at hl 2 rfl) ?_
      refine lv_iload_n hx hb dX9_comes_155 rfl (lv_at hl 3 rfl) ?_
      refine lv_iload_n hx hb dX9_comes_156 rfl (lv_at hl 4 rfl) ?_
      have hPc := hP.sub (ws' := [(h0, .inr (9, [.ref h1, .ref h2, .int a0, .int a1, .int a2, .int a3, .int a4, .int a5, .int a6, .int a7, .long y0, .ref h3, .ref h4, .ref h5, .ref h6, .ref h7, .ref h8, .ref h9, .ref h10, .ref h11, .ref h12, .ref h13, .ref h14, .ref h15, .ref h16, .ref h17, .ref h18, .ref h19, .ref h20, .int a8, .int a9, .int a10, .int a11, .int a12, .ref h21, .ref h22, .ref h23, .int a13, .int a14, .int a15, .int a16, .int a17, .ref h24, .ref h25, .ref h26, .ref h27, .int a18, .int a19, .int a20, .int a21, .int a22, .int a23, .int a24, .ref h28, .ref h29, .ref h30, .int a25, .ref h31, .ref h32, .ref h33, .ref h34, .ref h35, .ref h36, .ref h37, .int a26, .int a27, .ref h38, .ref h39, .ref h40, .ref h41, .ref h42, .ref h43])), (h21, .inl (cI, 81, .inl g20))]) [0, 8] rfl
      have hDc := hD.sub (ws' := [(h0, .inr (9, [.ref h1, .ref h2, .int a0, .int a1, .int a2, .int a3, .int a4, .int a5, .int a6, .int a7, .long y0, .ref h3, .ref h4, .ref h5, .ref h6, .ref h7, .ref h8, .ref h9, .ref h10, .ref h11, .ref h12, .ref h13, .ref h14, .ref h15, .ref h16, .ref h17, .ref h18, .ref h19, .ref h20, .int a8, .int a9, .int a10, .int a11, .int a12, .ref h21, .ref h22, .ref h23, .int a13, .int a14, .int a15, .int a16, .int a17, .ref h24, .ref h25, .ref h26, .ref h27, .int a18, .int a19, .int a20, .int a21, .int a22, .int a23, .int a24, .ref h28, .ref h29, .ref h30, .int a25, .ref h31, .ref h32, .ref h33, .ref h34, .ref h35, .ref h36, .ref h37, .int a26, .int a27, .ref h38, .ref h39, .ref h40, .ref h41, .ref h42, .ref h43])), (h21, .inl (cI, 81, .inl g20))]) [0, 8] (by decide) rfl
      have hFc := va_free (wc := [(h0, .inr (9, [.ref h1, .ref h2, .int a0, .int a1, .int a2, .int a3, .int a4, .int a5, .int a6, .int a7, .long y0, .ref h3, .ref h4, .ref h5, .ref h6, .ref h7, .ref h8, .ref h9, .ref h10, .ref h11, .ref h12, .ref h13, .ref h14, .ref h15, .ref h16, .ref h17, .ref h18, .ref h19, .ref h20, .int a8, .int a9, .int a10, .int a11, .int a12, .ref h21, .ref h22, .ref h23, .int a13, .int a14, .int a15, .int a16, .int a17, .ref h24, .ref h25, .ref h26, .ref h27, .int a18, .int a19, .int a20, .int a21, .int a22, .int a23, .int a24, .ref h28, .ref h29, .ref h30, .int a25, .ref h31, .ref h32, .ref h33, .ref h34, .ref h35, .ref h36, .ref h37, .int a26, .int a27, .ref h38, .ref h39, .ref h40, .ref h41, .ref h42, .ref h43])), (h21, .inl (cI, 81, .inl g20))]) hD hS hA [0, 8] rfl
      refine va_calli (va_runV (As := [.int p0, .int p1]) (rest := []) ⟨hx, hb, hml, hown, hts⟩ (c_s_X9_sinceOf l dC dI cB cI cJ cZ cP h0 h1 h2 a0 a1 a2 a3 a4 a5 a6 a7 y0 h3 h4 h5 h6 h7 h8 h9 h10 h11 h12 h13 h14 h15 h16 h17 h18 h19 h20 a8 a9 a10 a11 a12 h21 g20 h22 h23 a13 a14 a15 a16 a17 h24 h25 h26 h27 a18 a19 a20 a21 a22 a23 a24 h28 h29 h30 a25 h31 h32 h33 h34 h35 h36 h37 a26 a27 h38 h39 h40 h41 h42 h43 p0 (rg_mono hp0 (by decide) (by decide)) p1 (rg_mono hp1 (by decide) (by decide)) H.size) (cwV 2 hts (gd_V (List.mem_of_getElem? (i := 4) rfl) (List.mem_of_getElem? (i := 5) rfl) (List.mem_of_getElem? (i := 6) rfl) (List.mem_of_getElem? (i := 7) rfl) (gd_mono k_s_X9_sinceOf (fun _ h => List.mem_cons_of_mem _ (List.mem_append_right _ (List.mem_append_right _ (List.mem_append_left _ h)))))) rfl rfl rfl (by decide +kernel) ⟨Nat.le_of_ble_eq_true rfl, Nat.le_of_ble_eq_true rfl⟩) ⟨fun a U g mk q => by obtain ⟨q0, q1, qP, qK, qD⟩ := q; exact ⟨q0, q1, qP, va_K.moved (u := U) (U := U.calling g mk a) (Vm.Alike.refl U.vm) qK, qD⟩, va_recv hK hPc (ci := 9) (q0 := 0) rfl rfl, fun U hU hW => ⟨rfl, by rw [hU], by rw [hU]; exact hPc, va_K.moved hW.alike hK, hDc.weaken (fun _ _ _ _ => trivial)⟩⟩ rfl rfl hl.1 rfl (lv_room (Nat.le_of_ble_eq_true rfl)) dX9_comes_157 ⟨Nat.le_of_ble_eq_true rfl, Nat.le_of_ble_eq_true rfl⟩) hS (fun q _ h => hFc q h) hFc (fun r_94 u t H1 locs ht hvm hw hB hz1 hk1 hS => ?_)
      obtain ⟨hP1, hD1⟩ := hB
      rw [ht] at hP1
      obtain ⟨hP, hD⟩ := va_join (wr := [(h7, .inl (cI, 2, .inl g6)), (h8, .inl (cI, 18, .inl g7)), (h11, .inl (cI, 162, .inl g10)), (h14, .inl (cZ, 2, .inl g13)), (h16, .inl (cI, 1000, .inl g15)), (h17, .inl (cI, 1000, .inl g16)), (h20, .inl (cI, 70, .inl f_43))]) (w1 := [(h0, .inr (9, [.ref h1, .ref h2, .int a0, .int a1, .int a2, .int a3, .int a4, .int a5, .int a6, .int a7, .long y0, .ref h3, .ref h4, .ref h5, .ref h6, .ref h7, .ref h8, .ref h9, .ref h10, .ref h11, .ref h12, .ref h13, .ref h14, .ref h15, .ref h16, .ref h17, .ref h18, .ref h19, .ref h20, .int a8, .int a9, .int a10, .int a11, .int a12, .ref h21, .ref h22, .ref h23, .int a13, .int a14, .int a15, .int a16, .int a17, .ref h24, .ref h25, .ref h26, .ref h27, .int a18, .int a19, .int a20, .int a21, .int a22, .int a23, .int a24, .ref h28, .ref h29, .ref h30, .int a25, .ref h31, .ref h32, .ref h33, .ref h34, .ref h35, .ref h36, .ref h37, .int a26, .int a27, .ref h38, .ref h39, .ref h40, .ref h41, .ref h42, .ref h43])), (h21, .inl (cI, 81, .inl g20))]) hP hD [0, 8] [1, 2, 3, 4, 5, 6, 7] rfl rfl (by decide) (by decide) hk1 hFc hP1 hD1
      generalize H1 = H at hP hS ⊢
      replace hP : va_P (dC, dI) vwCl [(h7, .inl (cI, 2, .inl g6)), (h8, .inl (cI, 18, .inl g7)), (h11, .inl (cI, 162, .inl g10)), (h14, .inl (cZ, 2, .inl g13)), (h16, .inl (cI, 1000, .inl g15)), (h17, .inl (cI, 1000, .inl g16)), (h20, .inl (cI, 70, .inl f_43)), (h0, .inr (9, [.ref h1, .ref h2, .int a0, .int a1, .int a2, .int a3, .int a4, .int a5, .int a6, .int a7, .long y0, .ref h3, .ref h4, .ref h5, .ref h6, .ref h7, .ref h8, .ref h9, .ref h10, .ref h11, .ref h12, .ref h13, .ref h14, .ref h15, .ref h16, .ref h17, .ref h18, .ref h19, .ref h20, .int a8, .int a9, .int a10, .int a11, .int a12, .ref h21, .ref h22, .ref h23, .int a13, .int a14, .int a15, .int a16, .int a17, .ref h24, .ref h25, .ref h26, .ref h27, .int a18, .int a19, .int a20, .int a21, .int a22, .int a23, .int a24, .ref h28, .ref h29, .ref h30, .int a25, .ref h31, .ref h32, .ref h33, .ref h34, .ref h35, .ref h36, .ref h37, .int a26, .int a27, .ref h38, .ref h39, .ref h40, .ref h41, .ref h42, .ref h43])), (h21, .inl (cI, 81, .inl g20))] H := hP
      replace hD : va_D A [(h7, .inl (cI, 2, .inl g6)), (h8, .inl (cI, 18, .inl g7)), (h11, .inl (cI, 162, .inl g10)), (h14, .inl (cZ, 2, .inl g13)), (h16, .inl (cI, 1000, .inl g15)), (h17, .inl (cI, 1000, .inl g16)), (h20, .inl (cI, 70, .inl f_43)), (h0, .inr (9, [.ref h1, .ref h2, .int a0, .int a1, .int a2, .int a3, .int a4, .int a5, .int a6, .int a7, .long y0, .ref h3, .ref h4, .ref h5, .ref h6, .ref h7, .ref h8, .ref h9, .ref h10, .ref h11, .ref h12, .ref h13, .ref h14, .ref h15, .ref h16, .ref h17, .ref h18, .ref h19, .ref h20, .int a8, .int a9, .int a10, .int a11, .int a12, .ref h21, .ref h22, .ref h23, .int a13, .int a14, .int a15, .int a16, .int a17, .ref h24, .ref h25, .ref h26, .ref h27, .int a18, .int a19, .int a20, .int a21, .int a22, .int a23, .int a24, .ref h28, .ref h29, .ref h30, .int a25, .ref h31, .ref h32, .ref h33, .ref h34, .ref h35, .ref h36, .ref h37, .int a26, .int a27, .ref h38, .ref h39, .ref h40, .ref h41, .ref h42, .ref h43])), (h21, .inl (cI, 81, .inl g20))] := hD
      have hr_94 : rg (-2147483648) (99) r_94 := hw
      refine lv_bipush (v := 99) hx hb dX9_comes_160 (by decide) ?_
      refine lv_icmp_ne (tgt := 169) hx hb dX9_comes_162 (by decide) (fun c_95 => ?_) (fun c_95 => ?_)
      · skip
        have h_96 : rg (-2147483648) (98) r_94 := by have ha := hr_94; have hb_ := (rg_k (x := 99) (c := 99) (by decide)); simp only [rg, fa_lt, fa_le, fa_eq, (by decide : (99 : Int32).toInt = 99)] at ha hb_ c_95; simp only [rg]; omega
        refine lv_iconst (v := 0) hx hb dX9_comes_169 (by decide) ?_
        have hP9 := hP.sub (ws' := [(h0, .inr (9, [.ref h1, .ref h2, .int a0, .int a1, .int a2, .int a3, .int a4, .int a5, .int a6, .int a7, .long y0, .ref h3, .ref h4, .ref h5, .ref h6, .ref h7, .ref h8, .ref h9, .ref h10, .ref h11, .ref h12, .ref h13, .ref h14, .ref h15, .ref h16, .ref h17, .ref h18, .ref h19, .ref h20, .int a8, .int a9, .int a10, .int a11, .int a12, .ref h21, .ref h22, .ref h23, .int a13, .int a14, .int a15, .int a16, .int a17, .ref h24, .ref h25, .ref h26, .ref h27, .int a18, .int a19, .int a20, .int a21, .int a22, .int a23, .int a24, .ref h28, .ref h29, .ref h30, .int a25, .ref h31, .ref h32, .ref h33, .ref h34, .ref h35, .ref h36, .ref h37, .int a26, .int a27, .ref h38, .ref h39, .ref h40, .ref h41, .ref h42, .ref h43])), (h7, .inl (cI, 2, .inl g6)), (h8, .inl (cI, 18, .inl g7)), (h11, .inl (cI, 162, .inl g10)), (h14, .inl (cZ, 2, .inl g13)), (h16, .inl (cI, 1000, .inl g15)), (h17, .inl (cI, 1000, .inl g16)), (h20, .inl (cI, 70, .inl f_43)), (h21, .inl (cI, 81, .inl g20))]) [7, 0, 1, 2, 3, 4, 5, 6, 8] rfl
        have hD9 := hD.sub (ws' := [(h0, .inr (9, [.ref h1, .ref h2, .int a0, .int a1, .int a2, .int a3, .int a4, .int a5, .int a6, .int a7, .long y0, .ref h3, .ref h4, .ref h5, .ref h6, .ref h7, .ref h8, .ref h9, .ref h10, .ref h11, .ref h12, .ref h13, .ref h14, .ref h15, .ref h16, .ref h17, .ref h18, .ref h19, .ref h20, .int a8, .int a9, .int a10, .int a11, .int a12, .ref h21, .ref h22, .ref h23, .int a13, .int a14, .int a15, .int a16, .int a17, .ref h24, .ref h25, .ref h26, .ref h27, .int a18, .int a19, .int a20, .int a21, .int a22, .int a23, .int a24, .ref h28, .ref h29, .ref h30, .int a25, .ref h31, .ref h32, .ref h33, .ref h34, .ref h35, .ref h36, .ref h37, .int a26, .int a27, .ref h38, .ref h39, .ref h40, .ref h41, .ref h42, .ref h43])), (h7, .inl (cI, 2, .inl g6)), (h8, .inl (cI, 18, .inl g7)), (h11, .inl (cI, 162, .inl g10)), (h14, .inl (cZ, 2, .inl g13)), (h16, .inl (cI, 1000, .inl g15)), (h17, .inl (cI, 1000, .inl g16)), (h20, .inl (cI, 70, .inl f_43)), (h21, .inl (cI, 81, .inl g20))]) [7, 0, 1, 2, 3, 4, 5, 6, 8] (by decide) rfl
        exact W.iret (v := 0) hx hb hr (fun t ht hW => ⟨⟨0, (), rfl, trivial, ⟨f_43, by rw [ht]; exact hP9, hD9⟩⟩, hS.F ht⟩) hS.2.2 dX9_comes_170
      · skip
        have h_97 : rg (99) (99) r_94 := by have ha := hr_94; have hb_ := (rg_k (x := 99) (c := 99) (by decide)); simp only [rg, fa_lt, fa_le, fa_eq, (by decide : (99 : Int32).toInt = 99)] at ha hb_ c_95; simp only [rg]; omega
        refine lv_iconst (v := 1) hx hb dX9_comes_165 (by decide) ?_
        refine lv_goto (tgt := 170) hx hb dX9_comes_166 (by decide) ?_
        have hP9 := hP.sub (ws' := [(h0, .inr (9, [.ref h1, .ref h2, .int a0, .int a1, .int a2, .int a3, .int a4, .int a5, .int a6, .int a7, .long y0, .ref h3, .ref h4, .ref h5, .ref h6, .ref h7, .ref h8, .ref h9, .ref h10, .ref h11, .ref h12, .ref h13, .ref h14, .ref h15, .ref h16, .ref h17, .ref h18, .ref h19, .ref h20, .int a8, .int a9, .int a10, .int a11, .int a12, .ref h21, .ref h22, .ref h23, .int a13, .int a14, .int a15, .int a16, .int a17, .ref h24, .ref h25, .ref h26, .ref h27, .int a18, .int a19, .int a20, .int a21, .int a22, .int a23, .int a24, .ref h28, .ref h29, .ref h30, .int a25, .ref h31, .ref h32, .ref h33, .ref h34, .ref h35, .ref h36, .ref h37, .int a26, .int a27, .ref h38, .ref h39, .ref h40, .ref h41, .ref h42, .ref h43])), (h7, .inl (cI, 2, .inl g6)), (h8, .inl (cI, 18, .inl g7)), (h11, .inl (cI, 162, .inl g10)), (h14, .inl (cZ, 2, .inl g13)), (h16, .inl (cI, 1000, .inl g15)), (h17, .inl (cI, 1000, .inl g16)), (h20, .inl (cI, 70, .inl f_43)), (h21, .inl (cI, 81, .inl g20))]) [7, 0, 1, 2, 3, 4, 5, 6, 8] rfl
        have hD9 := hD.sub (ws' := [(h0, .inr (9, [.ref h1, .ref h2, .int a0, .int a1, .int a2, .int a3, .int a4, .int a5, .int a6, .int a7, .long y0, .ref h3, .ref h4, .ref h5, .ref h6, .ref h7, .ref h8, .ref h9, .ref h10, .ref h11, .ref h12, .ref h13, .ref h14, .ref h15, .ref h16, .ref h17, .ref h18, .ref h19, .ref h20, .int a8, .int a9, .int a10, .int a11, .int a12, .ref h21, .ref h22, .ref h23, .int a13, .int a14, .int a15, .int a16, .int a17, .ref h24, .ref h25, .ref h26, .ref h27, .int a18, .int a19, .int a20, .int a21, .int a22, .int a23, .int a24, .ref h28, .ref h29, .ref h30, .int a25, .ref h31, .ref h32, .ref h33, .ref h34, .ref h35, .ref h36, .ref h37, .int a26, .int a27, .ref h38, .ref h39, .ref h40, .ref h41, .ref h42, .ref h43])), (h7, .inl (cI, 2, .inl g6)), (h8, .inl (cI, 18, .inl g7)), (h11, .inl (cI, 162, .inl g10)), (h14, .inl (cZ, 2, .inl g13)), (h16, .inl (cI, 1000, .inl g15)), (h17, .inl (cI, 1000, .inl g16)), (h20, .inl (cI, 70, .inl f_43)), (h21, .inl (cI, 81, .inl g20))]) [7, 0, 1, 2, 3, 4, 5, 6, 8] (by decide) rfl
        exact W.iret (v := 1) hx hb hr (fun t ht hW => ⟨⟨1, (), rfl, trivial, ⟨f_43, by rw [ht]; exact hP9, hD9⟩⟩, hS.F ht⟩) hS.2.2 dX9_comes_170
    · skip
      have h_98 : rg (1) (1) x_91 := by have ha := hx_91; have hb_ := (rg_k (x := 0) (c := 0) (by decide)); simp only [rg, fa_lt, fa_le, fa_eq, (by decide : (0 : Int32).toInt = 0)] at ha hb_ c_92; simp only [rg]; omega
      refine lv_aload_n hx hb dX9_comes_145 rfl (lv_at hl 2 rfl) ?_
      refine va_get (D := (dC, dI)) (ci := 9) (v := .ref h20) (C := RX9) (T := TX9) (N := 72) hx hb hts hinX9 hown hK hP 0 rfl rfl 28 (by decide) (hts (.fieldLink RX9 74 "MayRingsModel" "pile" "[I") (List.mem_of_getElem? (i := 8) rfl)) (fun _ h9 => h9) rfl dX9_comes_146 ?_
      refine lv_iconst (v := 0) hx hb dX9_comes_149 (by decide) ?_
      refine va_iald hx hb hK hP 7 1 rfl rfl (rg_in (n := 70) (rg_mono (rg_k (x := 0) (c := 0) (by decide)) (by decide) (by decide))) dX9_comes_150 ?_
      refine lv_topi (fun x_99 ex_99 => ?_)
      refine lv_goto (tgt := 170) hx hb dX9_comes_151 (by decide) ?_
      have hP9 := hP.sub (ws' := [(h0, .inr (9, [.ref h1, .ref h2, .int a0, .int a1, .int a2, .int a3, .int a4, .int a5, .int a6, .int a7, .long y0, .ref h3, .ref h4, .ref h5, .ref h6, .ref h7, .ref h8, .ref h9, .ref h10, .ref h11, .ref h12, .ref h13, .ref h14, .ref h15, .ref h16, .ref h17, .ref h18, .ref h19, .ref h20, .int a8, .int a9, .int a10, .int a11, .int a12, .ref h21, .ref h22, .ref h23, .int a13, .int a14, .int a15, .int a16, .int a17, .ref h24, .ref h25, .ref h26, .ref h27, .int a18, .int a19, .int a20, .int a21, .int a22, .int a23, .int a24, .ref h28, .ref h29, .ref h30, .int a25, .ref h31, .ref h32, .ref h33, .ref h34, .ref h35, .ref h36, .ref h37, .int a26, .int a27, .ref h38, .ref h39, .ref h40, .ref h41, .ref h42, .ref h43])), (h7, .inl (cI, 2, .inl g6)), (h8, .inl (cI, 18, .inl g7)), (h11, .inl (cI, 162, .inl g10)), (h14, .inl (cZ, 2, .inl g13)), (h16, .inl (cI, 1000, .inl g15)), (h17, .inl (cI, 1000, .inl g16)), (h20, .inl (cI, 70, .inl f_43)), (h21, .inl (cI, 81, .inl g20))]) [0, 1, 2, 3, 4, 5, 6, 7, 8] rfl
      have hD9 := hD.sub (ws' := [(h0, .inr (9, [.ref h1, .ref h2, .int a0, .int a1, .int a2, .int a3, .int a4, .int a5, .int a6, .int a7, .long y0, .ref h3, .ref h4, .ref h5, .ref h6, .ref h7, .ref h8, .ref h9, .ref h10, .ref h11, .ref h12, .ref h13, .ref h14, .ref h15, .ref h16, .ref h17, .ref h18, .ref h19, .ref h20, .int a8, .int a9, .int a10, .int a11, .int a12, .ref h21, .ref h22, .ref h23, .int a13, .int a14, .int a15, .int a16, .int a17, .ref h24, .ref h25, .ref h26, .ref h27, .int a18, .int a19, .int a20, .int a21, .int a22, .int a23, .int a24, .ref h28, .ref h29, .ref h30, .int a25, .ref h31, .ref h32, .ref h33, .ref h34, .ref h35, .ref h36, .ref h37, .int a26, .int a27, .ref h38, .ref h39, .ref h40, .ref h41, .ref h42, .ref h43])), (h7, .inl (cI, 2, .inl g6)), (h8, .inl (cI, 18, .inl g7)), (h11, .inl (cI, 162, .inl g10)), (h14, .inl (cZ, 2, .inl g13)), (h16, .inl (cI, 1000, .inl g15)), (h17, .inl (cI, 1000, .inl g16)), (h20, .inl (cI, 70, .inl f_43)), (h21, .inl (cI, 81, .inl g20))]) [0, 1, 2, 3, 4, 5, 6, 7, 8] (by decide) rfl
      exact W.iret (v := x_99) hx hb hr (fun t ht hW => ⟨⟨x_99, (), rfl, trivial, ⟨f_43, by rw [ht]; exact hP9, hD9⟩⟩, hS.F ht⟩) hS.2.2 dX9_comes_170
  · skip
    have h_100 : rg (0) (999) x_44 := by have ha := hx_44; have hb_ := hx_89; simp only [rg, fa_lt, fa_le, fa_eq] at ha hb_ c_90; simp only [rg]; omega
    have h_101 : rg (1) (1000) x_89 := by have ha := h_100; have hb_ := hx_89; have hc_ := c_90; simp only [rg, fa_lt, fa_le, fa_eq] at ha hb_ hc_; simp only [rg]; omega
    have h_102 : rg (1) (1000) x_89 := by have ha := hx_44; have hb_ := hx_89; simp only [rg, fa_lt, fa_le, fa_eq] at ha hb_ c_90; simp only [rg]; omega
    refine lv_aload_n hx hb dX9_comes_26 rfl (lv_at hl 2 rfl) ?_
    refine va_get (D := (dC, dI)) (ci := 9) (v := .ref h16) (C := RX9) (T := TX9) (N := 72) hx hb hts hinX9 hown hK hP 0 rfl rfl 24 (by decide) (hts (.fieldLink RX9 62 "MayRingsModel" "code" "[I") (List.mem_of_getElem? (i := 9) rfl)) (fun _ h9 => h9) rfl dX9_comes_27 ?_
    refine lv_iload hx hb dX9_comes_30 (lv_at hl 0 rfl) ?_
    refine va_iald hx hb hK hP 5 1 rfl rfl (rg_in (n := 1000) (rg_mono h_100 (by decide) (by decide))) dX9_comes_32 ?_
    refine lv_topi (fun x_103 ex_103 => ?_)
    refine lv_istore (lv' := [(5, .int x_103), (4, .int x_44), (3, .int x_45), (0, .ref h0), (1, .int p0), (2, .int p1)]) hx hb dX9_comes_33 hl (by decide) rfl (fun ls hl => ?_)
    refine lv_iload hx hb dX9_comes_35 (lv_at hl 0 rfl) ?_
    refine lv_bipush (v := 126) hx hb dX9_comes_37 (by decide) ?_
    refine lv_icmp_ne (tgt := 69) hx hb dX9_comes_39 (by decide) (fun c_104 => ?_) (fun c_104 => ?_)
    · skip
      refine lv_iload hx hb dX9_comes_69 (lv_at hl 0 rfl) ?_
      have hPc := hP.sub (ws' := []) [] rfl
      have hDc := hD.sub (ws' := []) [] (by decide) rfl
      have hFc := va_free (wc := []) hD hS hA [] rfl
      refine va_calli (va_runS (As := [.int x_103]) (rest := []) ⟨hx, hb, hml, hown, hts⟩ (c_s_X9_isLetter l dC dI cB cI cJ cZ cP x_103 H.size) (va_cwS 1 hts (gd_S (List.mem_of_getElem? (i := 10) rfl) (List.mem_of_getElem? (i := 11) rfl) (List.mem_of_getElem? (i := 7) rfl) (gd_mono k_s_X9_isLetter (fun _ h => List.mem_cons_of_mem _ (List.mem_append_right _ (List.mem_append_right _ (List.mem_append_right _ (List.mem_append_left _ h))))))) rfl rfl rfl (by decide +kernel) ⟨Nat.le_of_ble_eq_true rfl, Nat.le_of_ble_eq_true rfl⟩) ⟨fun a U g mk q => by obtain ⟨q0, q1, qP, qK, qD⟩ := q; exact ⟨q0, q1, qP, va_K.moved (u := U) (U := U.calling g mk a) (Vm.Alike.refl U.vm) qK, qD⟩, fun U hU hW => ⟨rfl, by rw [hU], by rw [hU]; exact hPc, va_K.moved hW.alike hK, hDc.weaken (fun _ _ _ _ => trivial)⟩⟩ rfl rfl hl.1 rfl (lv_room (Nat.le_of_ble_eq_true rfl)) dX9_comes_71 ⟨Nat.le_of_ble_eq_true rfl, Nat.le_of_ble_eq_true rfl⟩) hS (fun q _ h => hFc q h) hFc (fun r_105 u t H1 locs ht hvm hw hB hz1 hk1 hS => ?_)
      obtain ⟨hu9, hw⟩ := hw
      rw [hu9] at hB
      clear hu9
      obtain ⟨k_106, hP1, hD1⟩ := hB
      rw [ht] at hP1
      obtain ⟨hP, hD⟩ := va_join (wr := [(h0, .inr (9, [.ref h1, .ref h2, .int a0, .int a1, .int a2, .int a3, .int a4, .int a5, .int a6, .int a7, .long y0, .ref h3, .ref h4, .ref h5, .ref h6, .ref h7, .ref h8, .ref h9, .ref h10, .ref h11, .ref h12, .ref h13, .ref h14, .ref h15, .ref h16, .ref h17, .ref h18, .ref h19, .ref h20, .int a8, .int a9, .int a10, .int a11, .int a12, .ref h21, .ref h22, .ref h23, .int a13, .int a14, .int a15, .int a16, .int a17, .ref h24, .ref h25, .ref h26, .ref h27, .int a18, .int a19, .int a20, .int a21, .int a22, .int a23, .int a24, .ref h28, .ref h29, .ref h30, .int a25, .ref h31, .ref h32, .ref h33, .ref h34, .ref h35, .ref h36, .ref h37, .int a26, .int a27, .ref h38, .ref h39, .ref h40, .ref h41, .ref h42, .ref h43])), (h7, .inl (cI, 2, .inl g6)), (h8, .inl (cI, 18, .inl g7)), (h11, .inl (cI, 162, .inl g10)), (h14, .inl (cZ, 2, .inl g13)), (h16, .inl (cI, 1000, .inl g15)), (h17, .inl (cI, 1000, .inl g16)), (h20, .inl (cI, 70, .inl f_43)), (h21, .inl (cI, 81, .inl g20))]) (w1 := []) hP hD [] [0, 1, 2, 3, 4, 5, 6, 7, 8] rfl rfl (by decide) (by decide) hk1 hFc hP1 hD1
      generalize H1 = H at hP hS ⊢
      replace hP : va_P (dC, dI) vwCl [(h0, .inr (9, [.ref h1, .ref h2, .int a0, .int a1, .int a2, .int a3, .int a4, .int a5, .int a6, .int a7, .long y0, .ref h3, .ref h4, .ref h5, .ref h6, .ref h7, .ref h8, .ref h9, .ref h10, .ref h11, .ref h12, .ref h13, .ref h14, .ref h15, .ref h16, .ref h17, .ref h18, .ref h19, .ref h20, .int a8, .int a9, .int a10, .int a11, .int a12, .ref h21, .ref h22, .ref h23, .int a13, .int a14, .int a15, .int a16, .int a17, .ref h24, .ref h25, .ref h26, .ref h27, .int a18, .int a19, .int a20, .int a21, .int a22, .int a23, .int a24, .ref h28, .ref h29, .ref h30, .int a25, .ref h31, .ref h32, .ref h33, .ref h34, .ref h35, .ref h36, .ref h37, .int a26, .int a27, .ref h38, .ref h39, .ref h40, .ref h41, .ref h42, .ref h43])), (h7, .inl (cI, 2, .inl g6)), (h8, .inl (cI, 18, .inl g7)), (h11, .inl (cI, 162, .inl g10)), (h14, .inl (cZ, 2, .inl g13)), (h16, .inl (cI, 1000, .inl g15)), (h17, .inl (cI, 1000, .inl g16)), (h20, .inl (cI, 70, .inl f_43)), (h21, .inl (cI, 81, .inl g20))] H := hP
      replace hD : va_D A [(h0, .inr (9, [.ref h1, .ref h2, .int a0, .int a1, .int a2, .int a3, .int a4, .int a5, .int a6, .int a7, .long y0, .ref h3, .ref h4, .ref h5, .ref h6, .ref h7, .ref h8, .ref h9, .ref h10, .ref h11, .ref h12, .ref h13, .ref h14, .ref h15, .ref h16, .ref h17, .ref h18, .ref h19, .ref h20, .int a8, .int a9, .int a10, .int a11, .int a12, .ref h21, .ref h22, .ref h23, .int a13, .int a14, .int a15, .int a16, .int a17, .ref h24, .ref h25, .ref h26, .ref h27, .int a18, .int a19, .int a20, .int a21, .int a22, .int a23, .int a24, .ref h28, .ref h29, .ref h30, .int a25, .ref h31, .ref h32, .ref h33, .ref h34, .ref h35, .ref h36, .ref h37, .int a26, .int a27, .ref h38, .ref h39, .ref h40, .ref h41, .ref h42, .ref h43])), (h7, .inl (cI, 2, .inl g6)), (h8, .inl (cI, 18, .inl g7)), (h11, .inl (cI, 162, .inl g10)), (h14, .inl (cZ, 2, .inl g13)), (h16, .inl (cI, 1000, .inl g15)), (h17, .inl (cI, 1000, .inl g16)), (h20, .inl (cI, 70, .inl f_43)), (h21, .inl (cI, 81, .inl g20))] := hD
      have hr_105 : rg (0) (1) r_105 := hw.1
      have kr_105_0 : rg (1) (1) r_105 → rg (97) (122) x_103 := hw.2
      refine lv_if_eq (tgt := 97) hx hb dX9_comes_74 (by decide) (fun c_107 => ?_) (fun c_107 => ?_)
      · skip
        have h_108 : rg (0) (0) r_105 := by have ha := hr_105; have hb_ := (rg_k (x := 0) (c := 0) (by decide)); simp only [rg, fa_lt, fa_le, fa_eq, (by decide : (0 : Int32).toInt = 0)] at ha hb_ c_107; simp only [rg]; omega
        obtain ⟨h_109, m_110⟩ := (cm_step kr0 kl12_45_0 ex_89 c_90 ex_103).2.2 c_104 (by rw [← k_106]; exact (c_107).symm)
        obtain ⟨x_111, ex_111⟩ : ∃ y : Int32, y = x_45 + Int32.ofInt (-1) := ⟨_, rfl⟩
        have hx_111 : rg (1) (69) x_111 := by rw [ex_111]; exact rg_mono (rg_add h_109 (rg_k (x := Int32.ofInt (-1)) (c := -1) (by decide)) (by decide) (by decide)) (by decide) (by decide)
        have qx_111 : x_111.toInt = x_45.toInt + (-1) := by rw [ex_111]; exact rg_addE h_109 (rg_k (x := Int32.ofInt (-1)) (c := -1) (by decide)) (by decide) (by decide) (by decide)
        refine lv_iinc (v := x_111) (lv' := [(3, .int x_111), (5, .int x_103), (4, .int x_44), (0, .ref h0), (1, .int p0), (2, .int p1)]) hx hb dX9_comes_97 hl (k := 2) rfl (ex_111.symm) (by decide) rfl (fun ls hl => ?_)
        clear ex_111
        refine lv_aload_n hx hb dX9_comes_100 rfl (lv_at hl 3 rfl) ?_
        refine va_get (D := (dC, dI)) (ci := 9) (v := .ref h20) (C := RX9) (T := TX9) (N := 72) hx hb hts hinX9 hown hK hP 0 rfl rfl 28 (by decide) (hts (.fieldLink RX9 74 "MayRingsModel" "pile" "[I") (List.mem_of_getElem? (i := 8) rfl)) (fun _ h9 => h9) rfl dX9_comes_101 ?_
        refine lv_iload_n hx hb dX9_comes_104 rfl (lv_at hl 0 rfl) ?_
        refine lv_iconst (v := 1) hx hb dX9_comes_105 (by decide) ?_
        refine lv_isub hx hb dX9_comes_106 ?_
        refine lv_topi (fun x_112 ex_112 => ?_)
        have hx_112 : rg (0) (68) x_112 := by rw [ex_112]; exact rg_mono (rg_sub hx_111 (rg_k (x := 1) (c := 1) (by decide)) (by decide) (by decide)) (by decide) (by decide)
        have qx_112 : x_112.toInt = x_111.toInt + (-1) := by rw [ex_112]; exact rg_subE hx_111 (rg_k (x := 1) (c := 1) (by decide)) (by decide) (by decide) trivial
        refine lv_iload hx hb dX9_comes_107 (lv_at hl 1 rfl) ?_
        refine lv_aload_n hx hb dX9_comes_109 rfl (lv_at hl 3 rfl) ?_
        refine va_get (D := (dC, dI)) (ci := 9) (v := .ref h20) (C := RX9) (T := TX9) (N := 72) hx hb hts hinX9 hown hK hP 0 rfl rfl 28 (by decide) (hts (.fieldLink RX9 74 "MayRingsModel" "pile" "[I") (List.mem_of_getElem? (i := 8) rfl)) (fun _ h9 => h9) rfl dX9_comes_110 ?_
        refine lv_iload_n hx hb dX9_comes_113 rfl (lv_at hl 0 rfl) ?_
        refine lv_iconst (v := 1) hx hb dX9_comes_114 (by decide) ?_
        refine lv_isub hx hb dX9_comes_115 ?_
        refine tp_v (.int x_112) (congrArg Value.int (ex_112.symm)) ?_
        refine va_iald hx hb hK hP 7 1 rfl rfl (rg_in (n := 70) (rg_mono hx_112 (by decide) (by decide))) dX9_comes_116 ?_
        refine lv_topi (fun x_113 ex_113 => ?_)
        refine lv_aload_n hx hb dX9_comes_117 rfl (lv_at hl 3 rfl) ?_
        refine va_get (D := (dC, dI)) (ci := 9) (v := .ref h20) (C := RX9) (T := TX9) (N := 72) hx hb hts hinX9 hown hK hP 0 rfl rfl 28 (by decide) (hts (.fieldLink RX9 74 "MayRingsModel" "pile" "[I") (List.mem_of_getElem? (i := 8) rfl)) (fun _ h9 => h9) rfl dX9_comes_118 ?_
        refine lv_iload_n hx hb dX9_comes_121 rfl (lv_at hl 0 rfl) ?_
        refine va_iald hx hb hK hP 7 1 rfl rfl (rg_in (n := 70) (rg_mono hx_111 (by decide) (by decide))) dX9_comes_122 ?_
        refine lv_topi (fun x_114 ex_114 => ?_)
        have hPc := hP.sub (ws' := []) [] rfl
        have hDc := hD.sub (ws' := []) [] (by decide) rfl
        have hFc := va_free (wc := []) hD hS hA [] rfl
        refine va_calli (va_runS (As := [.int x_103, .int x_113, .int x_114]) (rest := [.int x_112, .ref h20]) ⟨hx, hb, hml, hown, hts⟩ (c_s_X9_two l dC dI cB cI cJ cZ cP x_103 x_113 x_114 H.size) (va_cwS 3 hts (gd_S (List.mem_of_getElem? (i := 12) rfl) (List.mem_of_getElem? (i := 13) rfl) (List.mem_of_getElem? (i := 7) rfl) (gd_mono k_s_X9_two (fun _ h => List.mem_cons_of_mem _ (List.mem_append_right _ (List.mem_append_right _ (List.mem_append_right _ (List.mem_append_right _ (List.mem_append_left _ h)))))))) rfl rfl rfl (by decide +kernel) ⟨Nat.le_of_ble_eq_true rfl, Nat.le_of_ble_eq_true rfl⟩) ⟨fun a U g mk q => by obtain ⟨q0, q1, qP, qK, qD⟩ := q; exact ⟨q0, q1, qP, va_K.moved (u := U) (U := U.calling g mk a) (Vm.Alike.refl U.vm) qK, qD⟩, fun U hU hW => ⟨rfl, by rw [hU], by rw [hU]; exact hPc, va_K.moved hW.alike hK, hDc.weaken (fun _ _ _ _ => trivial)⟩⟩ rfl rfl hl.1 rfl (lv_room (Nat.le_of_ble_eq_true rfl)) dX9_comes_123 ⟨Nat.le_of_ble_eq_true rfl, Nat.le_of_ble_eq_true rfl⟩) hS (fun q _ h => hFc q h) hFc (fun r_115 u t H1 locs ht hvm hw hB hz1 hk1 hS => ?_)
        obtain ⟨hP1, hD1⟩ := hB
        rw [ht] at hP1
        obtain ⟨hP, hD⟩ := va_join (wr := [(h0, .inr (9, [.ref h1, .ref h2, .int a0, .int a1, .int a2, .int a3, .int a4, .int a5, .int a6, .int a7, .long y0, .ref h3, .ref h4, .ref h5, .ref h6, .ref h7, .ref h8, .ref h9, .ref h10, .ref h11, .ref h12, .ref h13, .ref h14, .ref h15, .ref h16, .ref h17, .ref h18, .ref h19, .ref h20, .int a8, .int a9, .int a10, .int a11, .int a12, .ref h21, .ref h22, .ref h23, .int a13, .int a14, .int a15, .int a16, .int a17, .ref h24, .ref h25, .ref h26, .ref h27, .int a18, .int a19, .int a20, .int a21, .int a22, .int a23, .int a24, .ref h28, .ref h29, .ref h30, .int a25, .ref h31, .ref h32, .ref h33, .ref h34, .ref h35, .ref h36, .ref h37, .int a26, .int a27, .ref h38, .ref h39, .ref h40, .ref h41, .ref h42, .ref h43])), (h7, .inl (cI, 2, .inl g6)), (h8, .inl (cI, 18, .inl g7)), (h11, .inl (cI, 162, .inl g10)), (h14, .inl (cZ, 2, .inl g13)), (h16, .inl (cI, 1000, .inl g15)), (h17, .inl (cI, 1000, .inl g16)), (h20, .inl (cI, 70, .inl f_43)), (h21, .inl (cI, 81, .inl g20))]) (w1 := []) hP hD [] [0, 1, 2, 3, 4, 5, 6, 7, 8] rfl rfl (by decide) (by decide) hk1 hFc hP1 hD1
        generalize H1 = H at hP hS ⊢
        replace hP : va_P (dC, dI) vwCl [(h0, .inr (9, [.ref h1, .ref h2, .int a0, .int a1, .int a2, .int a3, .int a4, .int a5, .int a6, .int a7, .long y0, .ref h3, .ref h4, .ref h5, .ref h6, .ref h7, .ref h8, .ref h9, .ref h10, .ref h11, .ref h12, .ref h13, .ref h14, .ref h15, .ref h16, .ref h17, .ref h18, .ref h19, .ref h20, .int a8, .int a9, .int a10, .int a11, .int a12, .ref h21, .ref h22, .ref h23, .int a13, .int a14, .int a15, .int a16, .int a17, .ref h24, .ref h25, .ref h26, .ref h27, .int a18, .int a19, .int a20, .int a21, .int a22, .int a23, .int a24, .ref h28, .ref h29, .ref h30, .int a25, .ref h31, .ref h32, .ref h33, .ref h34, .ref h35, .ref h36, .ref h37, .int a26, .int a27, .ref h38, .ref h39, .ref h40, .ref h41, .ref h42, .ref h43])), (h7, .inl (cI, 2, .inl g6)), (h8, .inl (cI, 18, .inl g7)), (h11, .inl (cI, 162, .inl g10)), (h14, .inl (cZ, 2, .inl g13)), (h16, .inl (cI, 1000, .inl g15)), (h17, .inl (cI, 1000, .inl g16)), (h20, .inl (cI, 70, .inl f_43)), (h21, .inl (cI, 81, .inl g20))] H := hP
        replace hD : va_D A [(h0, .inr (9, [.ref h1, .ref h2, .int a0, .int a1, .int a2, .int a3, .int a4, .int a5, .int a6, .int a7, .long y0, .ref h3, .ref h4, .ref h5, .ref h6, .ref h7, .ref h8, .ref h9, .ref h10, .ref h11, .ref h12, .ref h13, .ref h14, .ref h15, .ref h16, .ref h17, .ref h18, .ref h19, .ref h20, .int a8, .int a9, .int a10, .int a11, .int a12, .ref h21, .ref h22, .ref h23, .int a13, .int a14, .int a15, .int a16, .int a17, .ref h24, .ref h25, .ref h26, .ref h27, .int a18, .int a19, .int a20, .int a21, .int a22, .int a23, .int a24, .ref h28, .ref h29, .ref h30, .int a25, .ref h31, .ref h32, .ref h33, .ref h34, .ref h35, .ref h36, .ref h37, .int a26, .int a27, .ref h38, .ref h39, .ref h40, .ref h41, .ref h42, .ref h43])), (h7, .inl (cI, 2, .inl g6)), (h8, .inl (cI, 18, .inl g7)), (h11, .inl (cI, 162, .inl g10)), (h14, .inl (cZ, 2, .inl g13)), (h16, .inl (cI, 1000, .inl g15)), (h17, .inl (cI, 1000, .inl g16)), (h20, .inl (cI, 70, .inl f_43)), (h21, .inl (cI, 81, .inl g20))] := hD
        refine va_iast hx hb hK hP hD hS 7 1 rfl rfl (rg_in (n := 70) (rg_mono hx_112 (by decide) (by decide))) dX9_comes_126 (fun H locs hP hD hS => ?_)
        obtain ⟨f_116, ef_116⟩ : ∃ f : Nat → Int32, f = upd f_43 (x_112 : Int32).toNatClampNeg r_115 := ⟨_, rfl⟩
        rw [← ef_116] at hP hD
        clear ef_116
        replace hP : va_P (dC, dI) vwCl [(h0, .inr (9, [.ref h1, .ref h2, .int a0, .int a1, .int a2, .int a3, .int a4, .int a5, .int a6, .int a7, .long y0, .ref h3, .ref h4, .ref h5, .ref h6, .ref h7, .ref h8, .ref h9, .ref h10, .ref h11, .ref h12, .ref h13, .ref h14, .ref h15, .ref h16, .ref h17, .ref h18, .ref h19, .ref h20, .int a8, .int a9, .int a10, .int a11, .int a12, .ref h21, .ref h22, .ref h23, .int a13, .int a14, .int a15, .int a16, .int a17, .ref h24, .ref h25, .ref h26, .ref h27, .int a18, .int a19, .int a20, .int a21, .int a22, .int a23, .int a24, .ref h28, .ref h29, .ref h30, .int a25, .ref h31, .ref h32, .ref h33, .ref h34, .ref h35, .ref h36, .ref h37, .int a26, .int a27, .ref h38, .ref h39, .ref h40, .ref h41, .ref h42, .ref h43])), (h7, .inl (cI, 2, .inl g6)), (h8, .inl (cI, 18, .inl g7)), (h11, .inl (cI, 162, .inl g10)), (h14, .inl (cZ, 2, .inl g13)), (h16, .inl (cI, 1000, .inl g15)), (h17, .inl (cI, 1000, .inl g16)), (h20, .inl (cI, 70, .inl f_116)), (h21, .inl (cI, 81, .inl g20))] H := hP
        replace hD : va_D A [(h0, .inr (9, [.ref h1, .ref h2, .int a0, .int a1, .int a2, .int a3, .int a4, .int a5, .int a6, .int a7, .long y0, .ref h3, .ref h4, .ref h5, .ref h6, .ref h7, .ref h8, .ref h9, .ref h10, .ref h11, .ref h12, .ref h13, .ref h14, .ref h15, .ref h16, .ref h17, .ref h18, .ref h19, .ref h20, .int a8, .int a9, .int a10, .int a11, .int a12, .ref h21, .ref h22, .ref h23, .int a13, .int a14, .int a15, .int a16, .int a17, .ref h24, .ref h25, .ref h26, .ref h27, .int a18, .int a19, .int a20, .int a21, .int a22, .int a23, .int a24, .ref h28, .ref h29, .ref h30, .int a25, .ref h31, .ref h32, .ref h33, .ref h34, .ref h35, .ref h36, .ref h37, .int a26, .int a27, .ref h38, .ref h39, .ref h40, .ref h41, .ref h42, .ref h43])), (h7, .inl (cI, 2, .inl g6)), (h8, .inl (cI, 18, .inl g7)), (h11, .inl (cI, 162, .inl g10)), (h14, .inl (cZ, 2, .inl g13)), (h16, .inl (cI, 1000, .inl g15)), (h17, .inl (cI, 1000, .inl g16)), (h20, .inl (cI, 70, .inl f_116)), (h21, .inl (cI, 81, .inl g20))] := hD
        obtain ⟨x_117, ex_117⟩ : ∃ y : Int32, y = x_44 + Int32.ofInt (1) := ⟨_, rfl⟩
        have hx_117 : rg (1) (1000) x_117 := by rw [ex_117]; exact rg_mono (rg_add h_100 (rg_k (x := Int32.ofInt (1)) (c := 1) (by decide)) (by decide) (by decide)) (by decide) (by decide)
        have qx_117 : x_117.toInt = x_44.toInt + (1) := by rw [ex_117]; exact rg_addE h_100 (rg_k (x := Int32.ofInt (1)) (c := 1) (by decide)) (by decide) (by decide) (by decide)
        refine lv_iinc (v := x_117) (lv' := [(4, .int x_117), (3, .int x_111), (5, .int x_103), (0, .ref h0), (1, .int p0), (2, .int p1)]) hx hb dX9_comes_127 hl (k := 2) rfl (ex_117.symm) (by decide) rfl (fun ls hl => ?_)
        clear ex_117
        refine lv_goto (tgt := 12) hx hb dX9_comes_130 (by decide) ?_
        exact ih_88 (f_116, x_117, x_111) H locs ls ⟨hP.sub (ws' := [(h0, .inr (9, [.ref h1, .ref h2, .int a0, .int a1, .int a2, .int a3, .int a4, .int a5, .int a6, .int a7, .long y0, .ref h3, .ref h4, .ref h5, .ref h6, .ref h7, .ref h8, .ref h9, .ref h10, .ref h11, .ref h12, .ref h13, .ref h14, .ref h15, .ref h16, .ref h17, .ref h18, .ref h19, .ref h20, .int a8, .int a9, .int a10, .int a11, .int a12, .ref h21, .ref h22, .ref h23, .int a13, .int a14, .int a15, .int a16, .int a17, .ref h24, .ref h25, .ref h26, .ref h27, .int a18, .int a19, .int a20, .int a21, .int a22, .int a23, .int a24, .ref h28, .ref h29, .ref h30, .int a25, .ref h31, .ref h32, .ref h33, .ref h34, .ref h35, .ref h36, .ref h37, .int a26, .int a27, .ref h38, .ref h39, .ref h40, .ref h41, .ref h42, .ref h43])), (h7, .inl (cI, 2, .inl g6)), (h8, .inl (cI, 18, .inl g7)), (h11, .inl (cI, 162, .inl g10)), (h14, .inl (cZ, 2, .inl g13)), (h16, .inl (cI, 1000, .inl g15)), (h17, .inl (cI, 1000, .inl g16)), (h20, .inl (cI, 70, .inl f_116)), (h21, .inl (cI, 81, .inl g20))]) [0, 1, 2, 3, 4, 5, 6, 7, 8] rfl, hD.sub (ws' := [(h0, .inr (9, [.ref h1, .ref h2, .int a0, .int a1, .int a2, .int a3, .int a4, .int a5, .int a6, .int a7, .long y0, .ref h3, .ref h4, .ref h5, .ref h6, .ref h7, .ref h8, .ref h9, .ref h10, .ref h11, .ref h12, .ref h13, .ref h14, .ref h15, .ref h16, .ref h17, .ref h18, .ref h19, .ref h20, .int a8, .int a9, .int a10, .int a11, .int a12, .ref h21, .ref h22, .ref h23, .int a13, .int a14, .int a15, .int a16, .int a17, .ref h24, .ref h25, .ref h26, .ref h27, .int a18, .int a19, .int a20, .int a21, .int a22, .int a23, .int a24, .ref h28, .ref h29, .ref h30, .int a25, .ref h31, .ref h32, .ref h33, .ref h34, .ref h35, .ref h36, .ref h37, .int a26, .int a27, .ref h38, .ref h39, .ref h40, .ref h41, .ref h42, .ref h43])), (h7, .inl (cI, 2, .inl g6)), (h8, .inl (cI, 18, .inl g7)), (h11, .inl (cI, 162, .inl g10)), (h14, .inl (cZ, 2, .inl g13)), (h16, .inl (cI, 1000, .inl g15)), (h17, .inl (cI, 1000, .inl g16)), (h20, .inl (cI, 70, .inl f_116)), (h21, .inl (cI, 81, .inl g20))]) [0, 1, 2, 3, 4, 5, 6, 7, 8] (by decide) rfl, hS, lv_sub hl [0, 1, 3, 4, 5] rfl, (rg_mono hx_117 (by decide) (by decide)), (rg_mono hx_111 (by decide) (by decide)), (show cmI g15 a8 x_111 x_117 from m_110 _ _ (by omega) qx_117)⟩ (by show ((1000) - x_117.toInt).toNat < ((1000) - x_44.toInt).toNat; have ha := h_100; simp only [rg] at ha; omega)
      · skip
        have h_118 : rg (1) (1) r_105 := by have ha := hr_105; have hb_ := (rg_k (x := 0) (c := 0) (by decide)); simp only [rg, fa_lt, fa_le, fa_eq, (by decide : (0 : Int32).toInt = 0)] at ha hb_ c_107; simp only [rg]; omega
        have h_119 : rg (97) (122) x_103 := rg_meet (rg_any x_103) (kr_105_0 (rg_mono h_118 (by decide) (by decide))) (by decide) (by decide)
        obtain ⟨h_120, m_121⟩ := (cm_step kr0 kl12_45_0 ex_89 c_90 ex_103).2.1 c_104 (by rw [← k_106]; exact (rg_eq (rg_mono (c := 1) (d := 1) h_118 (by decide) (by decide)) (by decide)).symm)
        refine lv_aload_n hx hb dX9_comes_77 rfl (lv_at hl 3 rfl) ?_
        refine va_get (D := (dC, dI)) (ci := 9) (v := .ref h20) (C := RX9) (T := TX9) (N := 72) hx hb hts hinX9 hown hK hP 0 rfl rfl 28 (by decide) (hts (.fieldLink RX9 74 "MayRingsModel" "pile" "[I") (List.mem_of_getElem? (i := 8) rfl)) (fun _ h9 => h9) rfl dX9_comes_78 ?_
        refine lv_iload_n hx hb dX9_comes_81 rfl (lv_at hl 2 rfl) ?_
        refine lv_aload_n hx hb dX9_comes_82 rfl (lv_at hl 3 rfl) ?_
        refine lv_iload hx hb dX9_comes_83 (lv_at hl 1 rfl) ?_
        refine lv_iload_n hx hb dX9_comes_85 rfl (lv_at hl 4 rfl) ?_
        refine lv_iload_n hx hb dX9_comes_86 rfl (lv_at hl 5 rfl) ?_
        have hPc := hP.sub (ws' := [(h0, .inr (9, [.ref h1, .ref h2, .int a0, .int a1, .int a2, .int a3, .int a4, .int a5, .int a6, .int a7, .long y0, .ref h3, .ref h4, .ref h5, .ref h6, .ref h7, .ref h8, .ref h9, .ref h10, .ref h11, .ref h12, .ref h13, .ref h14, .ref h15, .ref h16, .ref h17, .ref h18, .ref h19, .ref h20, .int a8, .int a9, .int a10, .int a11, .int a12, .ref h21, .ref h22, .ref h23, .int a13, .int a14, .int a15, .int a16, .int a17, .ref h24, .ref h25, .ref h26, .ref h27, .int a18, .int a19, .int a20, .int a21, .int a22, .int a23, .int a24, .ref h28, .ref h29, .ref h30, .int a25, .ref h31, .ref h32, .ref h33, .ref h34, .ref h35, .ref h36, .ref h37, .int a26, .int a27, .ref h38, .ref h39, .ref h40, .ref h41, .ref h42, .ref h43])), (h8, .inl (cI, 18, .inl g7)), (h11, .inl (cI, 162, .inl g10)), (h16, .inl (cI, 1000, .inl g15)), (h17, .inl (cI, 1000, .inl g16)), (h21, .inl (cI, 81, .inl g20))]) [0, 2, 3, 5, 6, 8] rfl
        have hDc := hD.sub (ws' := [(h0, .inr (9, [.ref h1, .ref h2, .int a0, .int a1, .int a2, .int a3, .int a4, .int a5, .int a6, .int a7, .long y0, .ref h3, .ref h4, .ref h5, .ref h6, .ref h7, .ref h8, .ref h9, .ref h10, .ref h11, .ref h12, .ref h13, .ref h14, .ref h15, .ref h16, .ref h17, .ref h18, .ref h19, .ref h20, .int a8, .int a9, .int a10, .int a11, .int a12, .ref h21, .ref h22, .ref h23, .int a13, .int a14, .int a15, .int a16, .int a17, .ref h24, .ref h25, .ref h26, .ref h27, .int a18, .int a19, .int a20, .int a21, .int a22, .int a23, .int a24, .ref h28, .ref h29, .ref h30, .int a25, .ref h31, .ref h32, .ref h33, .ref h34, .ref h35, .ref h36, .ref h37, .int a26, .int a27, .ref h38, .ref h39, .ref h40, .ref h41, .ref h42, .ref h43])), (h8, .inl (cI, 18, .inl g7)), (h11, .inl (cI, 162, .inl g10)), (h16, .inl (cI, 1000, .inl g15)), (h17, .inl (cI, 1000, .inl g16)), (h21, .inl (cI, 81, .inl g20))]) [0, 2, 3, 5, 6, 8] (by decide) rfl
        have hFc := va_free (wc := [(h0, .inr (9, [.ref h1, .ref h2, .int a0, .int a1, .int a2, .int a3, .int a4, .int a5, .int a6, .int a7, .long y0, .ref h3, .ref h4, .ref h5, .ref h6, .ref h7, .ref h8, .ref h9, .ref h10, .ref h11, .ref h12, .ref h13, .ref h14, .ref h15, .ref h16, .ref h17, .ref h18, .ref h19, .ref h20, .int a8, .int a9, .int a10, .int a11, .int a12, .ref h21, .ref h22, .ref h23, .int a13, .int a14, .int a15, .int a16, .int a17, .ref h24, .ref h25, .ref h26, .ref h27, .int a18, .int a19, .int a20, .int a21, .int a22, .int a23, .int a24, .ref h28, .ref h29, .ref h30, .int a25, .ref h31, .ref h32, .ref h33, .ref h34, .ref h35, .ref h36, .ref h37, .int a26, .int a27, .ref h38, .ref h39, .ref h40, .ref h41, .ref h42, .ref h43])), (h8, .inl (cI, 18, .inl g7)), (h11, .inl (cI, 162, .inl g10)), (h16, .inl (cI, 1000, .inl g15)), (h17, .inl (cI, 1000, .inl g16)), (h21, .inl (cI, 81, .inl g20))]) hD hS hA [0, 2, 3, 5, 6, 8] rfl
        refine va_calli (va_runV (As := [.int x_44, .int p0, .int p1]) (rest := [.int x_45, .ref h20]) ⟨hx, hb, hml, hown, hts⟩ (c_s_X9_amount l dC dI cB cI cJ cZ cP h0 h1 h2 a0 a1 a2 a3 a4 a5 a6 a7 y0 h3 h4 h5 h6 h7 h8 g7 h9 h10 h11 g10 h12 h13 h14 h15 h16 g15 h17 g16 h18 h19 h20 a8 (rg_mono ha8 (by decide) (by decide)) a9 a10 a11 a12 h21 g20 h22 h23 a13 (rg_mono ha13 (by decide) (by decide)) a14 a15 a16 a17 h24 h25 h26 h27 a18 a19 a20 a21 a22 a23 a24 h28 h29 h30 a25 h31 h32 h33 h34 h35 h36 h37 a26 a27 h38 h39 h40 h41 h42 h43 x_44 (rg_mono h_100 (by decide) (by decide)) p0 (rg_mono hp0 (by decide) (by decide)) p1 (rg_mono hp1 (by decide) (by decide)) H.size) (cwV 3 hts (gd_V (List.mem_of_getElem? (i := 14) rfl) (List.mem_of_getElem? (i := 15) rfl) (List.mem_of_getElem? (i := 16) rfl) (List.mem_of_getElem? (i := 7) rfl) (gd_mono k_s_X9_amount (fun _ h => List.mem_cons_of_mem _ (List.mem_append_right _ (List.mem_append_right _ (List.mem_append_right _ (List.mem_append_right _ (List.mem_append_right _ (List.mem_append_left _ h))))))))) rfl rfl rfl (by decide +kernel) ⟨Nat.le_of_ble_eq_true rfl, Nat.le_of_ble_eq_true rfl⟩) ⟨fun a U g mk q => by obtain ⟨q0, q1, qP, qK, qD⟩ := q; exact ⟨q0, q1, qP, va_K.moved (u := U) (U := U.calling g mk a) (Vm.Alike.refl U.vm) qK, qD⟩, va_recv hK hPc (ci := 9) (q0 := 0) rfl rfl, fun U hU hW => ⟨rfl, by rw [hU], by rw [hU]; exact hPc, va_K.moved hW.alike hK, hDc.weaken (fun _ _ _ _ => trivial)⟩⟩ rfl rfl hl.1 rfl (lv_room (Nat.le_of_ble_eq_true rfl)) dX9_comes_87 ⟨Nat.le_of_ble_eq_true rfl, Nat.le_of_ble_eq_true rfl⟩) hS (fun q _ h => hFc q h) hFc (fun r_122 u t H1 locs ht hvm hw hB hz1 hk1 hS => ?_)
        obtain ⟨hP1, hD1⟩ := hB
        rw [ht] at hP1
        obtain ⟨hP, hD⟩ := va_join (wr := [(h7, .inl (cI, 2, .inl g6)), (h14, .inl (cZ, 2, .inl g13)), (h20, .inl (cI, 70, .inl f_43))]) (w1 := [(h0, .inr (9, [.ref h1, .ref h2, .int a0, .int a1, .int a2, .int a3, .int a4, .int a5, .int a6, .int a7, .long y0, .ref h3, .ref h4, .ref h5, .ref h6, .ref h7, .ref h8, .ref h9, .ref h10, .ref h11, .ref h12, .ref h13, .ref h14, .ref h15, .ref h16, .ref h17, .ref h18, .ref h19, .ref h20, .int a8, .int a9, .int a10, .int a11, .int a12, .ref h21, .ref h22, .ref h23, .int a13, .int a14, .int a15, .int a16, .int a17, .ref h24, .ref h25, .ref h26, .ref h27, .int a18, .int a19, .int a20, .int a21, .int a22, .int a23, .int a24, .ref h28, .ref h29, .ref h30, .int a25, .ref h31, .ref h32, .ref h33, .ref h34, .ref h35, .ref h36, .ref h37, .int a26, .int a27, .ref h38, .ref h39, .ref h40, .ref h41, .ref h42, .ref h43])), (h8, .inl (cI, 18, .inl g7)), (h11, .inl (cI, 162, .inl g10)), (h16, .inl (cI, 1000, .inl g15)), (h17, .inl (cI, 1000, .inl g16)), (h21, .inl (cI, 81, .inl g20))]) hP hD [0, 2, 3, 5, 6, 8] [1, 4, 7] rfl rfl (by decide) (by decide) hk1 hFc hP1 hD1
        generalize H1 = H at hP hS ⊢
        replace hP : va_P (dC, dI) vwCl [(h7, .inl (cI, 2, .inl g6)), (h14, .inl (cZ, 2, .inl g13)), (h20, .inl (cI, 70, .inl f_43)), (h0, .inr (9, [.ref h1, .ref h2, .int a0, .int a1, .int a2, .int a3, .int a4, .int a5, .int a6, .int a7, .long y0, .ref h3, .ref h4, .ref h5, .ref h6, .ref h7, .ref h8, .ref h9, .ref h10, .ref h11, .ref h12, .ref h13, .ref h14, .ref h15, .ref h16, .ref h17, .ref h18, .ref h19, .ref h20, .int a8, .int a9, .int a10, .int a11, .int a12, .ref h21, .ref h22, .ref h23, .int a13, .int a14, .int a15, .int a16, .int a17, .ref h24, .ref h25, .ref h26, .ref h27, .int a18, .int a19, .int a20, .int a21, .int a22, .int a23, .int a24, .ref h28, .ref h29, .ref h30, .int a25, .ref h31, .ref h32, .ref h33, .ref h34, .ref h35, .ref h36, .ref h37, .int a26, .int a27, .ref h38, .ref h39, .ref h40, .ref h41, .ref h42, .ref h43])), (h8, .inl (cI, 18, .inl g7)), (h11, .inl (cI, 162, .inl g10)), (h16, .inl (cI, 1000, .inl g15)), (h17, .inl (cI, 1000, .inl g16)), (h21, .inl (cI, 81, .inl g20))] H := hP
        replace hD : va_D A [(h7, .inl (cI, 2, .inl g6)), (h14, .inl (cZ, 2, .inl g13)), (h20, .inl (cI, 70, .inl f_43)), (h0, .inr (9, [.ref h1, .ref h2, .int a0, .int a1, .int a2, .int a3, .int a4, .int a5, .int a6, .int a7, .long y0, .ref h3, .ref h4, .ref h5, .ref h6, .ref h7, .ref h8, .ref h9, .ref h10, .ref h11, .ref h12, .ref h13, .ref h14, .ref h15, .ref h16, .ref h17, .ref h18, .ref h19, .ref h20, .int a8, .int a9, .int a10, .int a11, .int a12, .ref h21, .ref h22, .ref h23, .int a13, .int a14, .int a15, .int a16, .int a17, .ref h24, .ref h25, .ref h26, .ref h27, .int a18, .int a19, .int a20, .int a21, .int a22, .int a23, .int a24, .ref h28, .ref h29, .ref h30, .int a25, .ref h31, .ref h32, .ref h33, .ref h34, .ref h35, .ref h36, .ref h37, .int a26, .int a27, .ref h38, .ref h39, .ref h40, .ref h41, .ref h42, .ref h43])), (h8, .inl (cI, 18, .inl g7)), (h11, .inl (cI, 162, .inl g10)), (h16, .inl (cI, 1000, .inl g15)), (h17, .inl (cI, 1000, .inl g16)), (h21, .inl (cI, 81, .inl g20))] := hD
        refine va_iast hx hb hK hP hD hS 2 1 rfl rfl (rg_in (n := 70) (rg_mono h_120 (by decide) (by decide))) dX9_comes_90 (fun H locs hP hD hS => ?_)
        obtain ⟨f_123, ef_123⟩ : ∃ f : Nat → Int32, f = upd f_43 (x_45 : Int32).toNatClampNeg r_122 := ⟨_, rfl⟩
        rw [← ef_123] at hP hD
        clear ef_123
        replace hP : va_P (dC, dI) vwCl [(h7, .inl (cI, 2, .inl g6)), (h14, .inl (cZ, 2, .inl g13)), (h20, .inl (cI, 70, .inl f_123)), (h0, .inr (9, [.ref h1, .ref h2, .int a0, .int a1, .int a2, .int a3, .int a4, .int a5, .int a6, .int a7, .long y0, .ref h3, .ref h4, .ref h5, .ref h6, .ref h7, .ref h8, .ref h9, .ref h10, .ref h11, .ref h12, .ref h13, .ref h14, .ref h15, .ref h16, .ref h17, .ref h18, .ref h19, .ref h20, .int a8, .int a9, .int a10, .int a11, .int a12, .ref h21, .ref h22, .ref h23, .int a13, .int a14, .int a15, .int a16, .int a17, .ref h24, .ref h25, .ref h26, .ref h27, .int a18, .int a19, .int a20, .int a21, .int a22, .int a23, .int a24, .ref h28, .ref h29, .ref h30, .int a25, .ref h31, .ref h32, .ref h33, .ref h34, .ref h35, .ref h36, .ref h37, .int a26, .int a27, .ref h38, .ref h39, .ref h40, .ref h41, .ref h42, .ref h43])), (h8, .inl (cI, 18, .inl g7)), (h11, .inl (cI, 162, .inl g10)), (h16, .inl (cI, 1000, .inl g15)), (h17, .inl (cI, 1000, .inl g16)), (h21, .inl (cI, 81, .inl g20))] H := hP
        replace hD : va_D A [(h7, .inl (cI, 2, .inl g6)), (h14, .inl (cZ, 2, .inl g13)), (h20, .inl (cI, 70, .inl f_123)), (h0, .inr (9, [.ref h1, .ref h2, .int a0, .int a1, .int a2, .int a3, .int a4, .int a5, .int a6, .int a7, .long y0, .ref h3, .ref h4, .ref h5, .ref h6, .ref h7, .ref h8, .ref h9, .ref h10, .ref h11, .ref h12, .ref h13, .ref h14, .ref h15, .ref h16, .ref h17, .ref h18, .ref h19, .ref h20, .int a8, .int a9, .int a10, .int a11, .int a12, .ref h21, .ref h22, .ref h23, .int a13, .int a14, .int a15, .int a16, .int a17, .ref h24, .ref h25, .ref h26, .ref h27, .int a18, .int a19, .int a20, .int a21, .int a22, .int a23, .int a24, .ref h28, .ref h29, .ref h30, .int a25, .ref h31, .ref h32, .ref h33, .ref h34, .ref h35, .ref h36, .ref h37, .int a26, .int a27, .ref h38, .ref h39, .ref h40, .ref h41, .ref h42, .ref h43])), (h8, .inl (cI, 18, .inl g7)), (h11, .inl (cI, 162, .inl g10)), (h16, .inl (cI, 1000, .inl g15)), (h17, .inl (cI, 1000, .inl g16)), (h21, .inl (cI, 81, .inl g20))] := hD
        obtain ⟨x_124, ex_124⟩ : ∃ y : Int32, y = x_45 + Int32.ofInt (1) := ⟨_, rfl⟩
        have hx_124 : rg (1) (70) x_124 := by rw [ex_124]; exact rg_mono (rg_add h_120 (rg_k (x := Int32.ofInt (1)) (c := 1) (by decide)) (by decide) (by decide)) (by decide) (by decide)
        have qx_124 : x_124.toInt = x_45.toInt + (1) := by rw [ex_124]; exact rg_addE h_120 (rg_k (x := Int32.ofInt (1)) (c := 1) (by decide)) (by decide) (by decide) (by decide)
        refine lv_iinc (v := x_124) (lv' := [(3, .int x_124), (5, .int x_103), (4, .int x_44), (0, .ref h0), (1, .int p0), (2, .int p1)]) hx hb dX9_comes_91 hl (k := 2) rfl (ex_124.symm) (by decide) rfl (fun ls hl => ?_)
        clear ex_124
        refine lv_goto (tgt := 127) hx hb dX9_comes_94 (by decide) ?_
        obtain ⟨x_125, ex_125⟩ : ∃ y : Int32, y = x_44 + Int32.ofInt (1) := ⟨_, rfl⟩
        have hx_125 : rg (1) (1000) x_125 := by rw [ex_125]; exact rg_mono (rg_add h_100 (rg_k (x := Int32.ofInt (1)) (c := 1) (by decide)) (by decide) (by decide)) (by decide) (by decide)
        have qx_125 : x_125.toInt = x_44.toInt + (1) := by rw [ex_125]; exact rg_addE h_100 (rg_k (x := Int32.ofInt (1)) (c := 1) (by decide)) (by decide) (by decide) (by decide)
        refine lv_iinc (v := x_125) (lv' := [(4, .int x_125), (3, .int x_124), (5, .int x_103), (0, .ref h0), (1, .int p0), (2, .int p1)]) hx hb dX9_comes_127 hl (k := 2) rfl (ex_125.symm) (by decide) rfl (fun ls hl => ?_)
        clear ex_125
        refine lv_goto (tgt := 12) hx hb dX9_comes_130 (by decide) ?_
        exact ih_88 (f_123, x_125, x_124) H locs ls ⟨hP.sub (ws' := [(h0, .inr (9, [.ref h1, .ref h2, .int a0, .int a1, .int a2, .int a3, .int a4, .int a5, .int a6, .int a7, .long y0, .ref h3, .ref h4, .ref h5, .ref h6, .ref h7, .ref h8, .ref h9, .ref h10, .ref h11, .ref h12, .ref h13, .ref h14, .ref h15, .ref h16, .ref h17, .ref h18, .ref h19, .ref h20, .int a8, .int a9, .int a10, .int a11, .int a12, .ref h21, .ref h22, .ref h23, .int a13, .int a14, .int a15, .int a16, .int a17, .ref h24, .ref h25, .ref h26, .ref h27, .int a18, .int a19, .int a20, .int a21, .int a22, .int a23, .int a24, .ref h28, .ref h29, .ref h30, .int a25, .ref h31, .ref h32, .ref h33, .ref h34, .ref h35, .ref h36, .ref h37, .int a26, .int a27, .ref h38, .ref h39, .ref h40, .ref h41, .ref h42, .ref h43])), (h7, .inl (cI, 2, .inl g6)), (h8, .inl (cI, 18, .inl g7)), (h11, .inl (cI, 162, .inl g10)), (h14, .inl (cZ, 2, .inl g13)), (h16, .inl (cI, 1000, .inl g15)), (h17, .inl (cI, 1000, .inl g16)), (h20, .inl (cI, 70, .inl f_123)), (h21, .inl (cI, 81, .inl g20))]) [3, 0, 4, 5, 1, 6, 7, 2, 8] rfl, hD.sub (ws' := [(h0, .inr (9, [.ref h1, .ref h2, .int a0, .int a1, .int a2, .int a3, .int a4, .int a5, .int a6, .int a7, .long y0, .ref h3, .ref h4, .ref h5, .ref h6, .ref h7, .ref h8, .ref h9, .ref h10, .ref h11, .ref h12, .ref h13, .ref h14, .ref h15, .ref h16, .ref h17, .ref h18, .ref h19, .ref h20, .int a8, .int a9, .int a10, .int a11, .int a12, .ref h21, .ref h22, .ref h23, .int a13, .int a14, .int a15, .int a16, .int a17, .ref h24, .ref h25, .ref h26, .ref h27, .int a18, .int a19, .int a20, .int a21, .int a22, .int a23, .int a24, .ref h28, .ref h29, .ref h30, .int a25, .ref h31, .ref h32, .ref h33, .ref h34, .ref h35, .ref h36, .ref h37, .int a26, .int a27, .ref h38, .ref h39, .ref h40, .ref h41, .ref h42, .ref h43])), (h7, .inl (cI, 2, .inl g6)), (h8, .inl (cI, 18, .inl g7)), (h11, .inl (cI, 162, .inl g10)), (h14, .inl (cZ, 2, .inl g13)), (h16, .inl (cI, 1000, .inl g15)), (h17, .inl (cI, 1000, .inl g16)), (h20, .inl (cI, 70, .inl f_123)), (h21, .inl (cI, 81, .inl g20))]) [3, 0, 4, 5, 1, 6, 7, 2, 8] (by decide) rfl, hS, lv_sub hl [0, 1, 3, 4, 5] rfl, (rg_mono hx_125 (by decide) (by decide)), (rg_mono hx_124 (by decide) (by decide)), (show cmI g15 a8 x_124 x_125 from m_121 _ _ qx_124 qx_125)⟩ (by show ((1000) - x_125.toInt).toNat < ((1000) - x_44.toInt).toNat; have ha := h_100; simp only [rg] at ha; omega)
    · skip
      have h_126 : rg (126) (126) x_103 := by have ha := (rg_any x_103); have hb_ := (rg_k (x := 126) (c := 126) (by decide)); simp only [rg, fa_lt, fa_le, fa_eq, (by decide : (126 : Int32).toInt = 126)] at ha hb_ c_104; simp only [rg]; omega
      obtain ⟨h_127, m_128⟩ := (cm_step kr0 kl12_45_0 ex_89 c_90 ex_103).1 c_104
      refine lv_aload_n hx hb dX9_comes_42 rfl (lv_at hl 3 rfl) ?_
      refine va_get (D := (dC, dI)) (ci := 9) (v := .ref h20) (C := RX9) (T := TX9) (N := 72) hx hb hts hinX9 hown hK hP 0 rfl rfl 28 (by decide) (hts (.fieldLink RX9 74 "MayRingsModel" "pile" "[I") (List.mem_of_getElem? (i := 8) rfl)) (fun _ h9 => h9) rfl dX9_comes_43 ?_
      refine lv_iload_n hx hb dX9_comes_46 rfl (lv_at hl 2 rfl) ?_
      refine lv_iconst (v := 1) hx hb dX9_comes_47 (by decide) ?_
      refine lv_isub hx hb dX9_comes_48 ?_
      refine lv_topi (fun x_129 ex_129 => ?_)
      have hx_129 : rg (0) (69) x_129 := by rw [ex_129]; exact rg_mono (rg_sub h_127 (rg_k (x := 1) (c := 1) (by decide)) (by decide) (by decide)) (by decide) (by decide)
      have qx_129 : x_129.toInt = x_45.toInt + (-1) := by rw [ex_129]; exact rg_subE h_127 (rg_k (x := 1) (c := 1) (by decide)) (by decide) (by decide) trivial
      refine lv_aload_n hx hb dX9_comes_49 rfl (lv_at hl 3 rfl) ?_
      refine va_get (D := (dC, dI)) (ci := 9) (v := .ref h20) (C := RX9) (T := TX9) (N := 72) hx hb hts hinX9 hown hK hP 0 rfl rfl 28 (by decide) (hts (.fieldLink RX9 74 "MayRingsModel" "pile" "[I") (List.mem_of_getElem? (i := 8) rfl)) (fun _ h9 => h9) rfl dX9_comes_50 ?_
      refine lv_iload_n hx hb dX9_comes_53 rfl (lv_at hl 2 rfl) ?_
      refine lv_iconst (v := 1) hx hb dX9_comes_54 (by decide) ?_
      refine lv_isub hx hb dX9_comes_55 ?_
      refine tp_v (.int x_129) (congrArg Value.int (ex_129.symm)) ?_
      refine va_iald hx hb hK hP 7 1 rfl rfl (rg_in (n := 70) (rg_mono hx_129 (by decide) (by decide))) dX9_comes_56 ?_
      refine lv_topi (fun x_130 ex_130 => ?_)
      refine lv_if_ne (tgt := 64) hx hb dX9_comes_57 (by decide) (fun c_131 => ?_) (fun c_131 => ?_)
      · skip
        refine lv_iconst (v := 0) hx hb dX9_comes_64 (by decide) ?_
        refine va_iast hx hb hK hP hD hS 7 1 rfl rfl (rg_in (n := 70) (rg_mono hx_129 (by decide) (by decide))) dX9_comes_65 (fun H locs hP hD hS => ?_)
        obtain ⟨f_132, ef_132⟩ : ∃ f : Nat → Int32, f = upd f_43 (x_129 : Int32).toNatClampNeg 0 := ⟨_, rfl⟩
        rw [← ef_132] at hP hD
        clear ef_132
        replace hP : va_P (dC, dI) vwCl [(h0, .inr (9, [.ref h1, .ref h2, .int a0, .int a1, .int a2, .int a3, .int a4, .int a5, .int a6, .int a7, .long y0, .ref h3, .ref h4, .ref h5, .ref h6, .ref h7, .ref h8, .ref h9, .ref h10, .ref h11, .ref h12, .ref h13, .ref h14, .ref h15, .ref h16, .ref h17, .ref h18, .ref h19, .ref h20, .int a8, .int a9, .int a10, .int a11, .int a12, .ref h21, .ref h22, .ref h23, .int a13, .int a14, .int a15, .int a16, .int a17, .ref h24, .ref h25, .ref h26, .ref h27, .int a18, .int a19, .int a20, .int a21, .int a22, .int a23, .int a24, .ref h28, .ref h29, .ref h30, .int a25, .ref h31, .ref h32, .ref h33, .ref h34, .ref h35, .ref h36, .ref h37, .int a26, .int a27, .ref h38, .ref h39, .ref h40, .ref h41, .ref h42, .ref h43])), (h7, .inl (cI, 2, .inl g6)), (h8, .inl (cI, 18, .inl g7)), (h11, .inl (cI, 162, .inl g10)), (h14, .inl (cZ, 2, .inl g13)), (h16, .inl (cI, 1000, .inl g15)), (h17, .inl (cI, 1000, .inl g16)), (h20, .inl (cI, 70, .inl f_132)), (h21, .inl (cI, 81, .inl g20))] H := hP
        replace hD : va_D A [(h0, .inr (9, [.ref h1, .ref h2, .int a0, .int a1, .int a2, .int a3, .int a4, .int a5, .int a6, .int a7, .long y0, .ref h3, .ref h4, .ref h5, .ref h6, .ref h7, .ref h8, .ref h9, .ref h10, .ref h11, .ref h12, .ref h13, .ref h14, .ref h15, .ref h16, .ref h17, .ref h18, .ref h19, .ref h20, .int a8, .int a9, .int a10, .int a11, .int a12, .ref h21, .ref h22, .ref h23, .int a13, .int a14, .int a15, .int a16, .int a17, .ref h24, .ref h25, .ref h26, .ref h27, .int a18, .int a19, .int a20, .int a21, .int a22, .int a23, .int a24, .ref h28, .ref h29, .ref h30, .int a25, .ref h31, .ref h32, .ref h33, .ref h34, .ref h35, .ref h36, .ref h37, .int a26, .int a27, .ref h38, .ref h39, .ref h40, .ref h41, .ref h42, .ref h43])), (h7, .inl (cI, 2, .inl g6)), (h8, .inl (cI, 18, .inl g7)), (h11, .inl (cI, 162, .inl g10)), (h14, .inl (cZ, 2, .inl g13)), (h16, .inl (cI, 1000, .inl g15)), (h17, .inl (cI, 1000, .inl g16)), (h20, .inl (cI, 70, .inl f_132)), (h21, .inl (cI, 81, .inl g20))] := hD
        refine lv_goto (tgt := 127) hx hb dX9_comes_66 (by decide) ?_
        obtain ⟨x_133, ex_133⟩ : ∃ y : Int32, y = x_44 + Int32.ofInt (1) := ⟨_, rfl⟩
        have hx_133 : rg (1) (1000) x_133 := by rw [ex_133]; exact rg_mono (rg_add h_100 (rg_k (x := Int32.ofInt (1)) (c := 1) (by decide)) (by decide) (by decide)) (by decide) (by decide)
        have qx_133 : x_133.toInt = x_44.toInt + (1) := by rw [ex_133]; exact rg_addE h_100 (rg_k (x := Int32.ofInt (1)) (c := 1) (by decide)) (by decide) (by decide) (by decide)
        refine lv_iinc (v := x_133) (lv' := [(4, .int x_133), (5, .int x_103), (3, .int x_45), (0, .ref h0), (1, .int p0), (2, .int p1)]) hx hb dX9_comes_127 hl (k := 1) rfl (ex_133.symm) (by decide) rfl (fun ls hl => ?_)
        clear ex_133
        refine lv_goto (tgt := 12) hx hb dX9_comes_130 (by decide) ?_
        exact ih_88 (f_132, x_133, x_45) H locs ls ⟨hP.sub (ws' := [(h0, .inr (9, [.ref h1, .ref h2, .int a0, .int a1, .int a2, .int a3, .int a4, .int a5, .int a6, .int a7, .long y0, .ref h3, .ref h4, .ref h5, .ref h6, .ref h7, .ref h8, .ref h9, .ref h10, .ref h11, .ref h12, .ref h13, .ref h14, .ref h15, .ref h16, .ref h17, .ref h18, .ref h19, .ref h20, .int a8, .int a9, .int a10, .int a11, .int a12, .ref h21, .ref h22, .ref h23, .int a13, .int a14, .int a15, .int a16, .int a17, .ref h24, .ref h25, .ref h26, .ref h27, .int a18, .int a19, .int a20, .int a21, .int a22, .int a23, .int a24, .ref h28, .ref h29, .ref h30, .int a25, .ref h31, .ref h32, .ref h33, .ref h34, .ref h35, .ref h36, .ref h37, .int a26, .int a27, .ref h38, .ref h39, .ref h40, .ref h41, .ref h42, .ref h43])), (h7, .inl (cI, 2, .inl g6)), (h8, .inl (cI, 18, .inl g7)), (h11, .inl (cI, 162, .inl g10)), (h14, .inl (cZ, 2, .inl g13)), (h16, .inl (cI, 1000, .inl g15)), (h17, .inl (cI, 1000, .inl g16)), (h20, .inl (cI, 70, .inl f_132)), (h21, .inl (cI, 81, .inl g20))]) [0, 1, 2, 3, 4, 5, 6, 7, 8] rfl, hD.sub (ws' := [(h0, .inr (9, [.ref h1, .ref h2, .int a0, .int a1, .int a2, .int a3, .int a4, .int a5, .int a6, .int a7, .long y0, .ref h3, .ref h4, .ref h5, .ref h6, .ref h7, .ref h8, .ref h9, .ref h10, .ref h11, .ref h12, .ref h13, .ref h14, .ref h15, .ref h16, .ref h17, .ref h18, .ref h19, .ref h20, .int a8, .int a9, .int a10, .int a11, .int a12, .ref h21, .ref h22, .ref h23, .int a13, .int a14, .int a15, .int a16, .int a17, .ref h24, .ref h25, .ref h26, .ref h27, .int a18, .int a19, .int a20, .int a21, .int a22, .int a23, .int a24, .ref h28, .ref h29, .ref h30, .int a25, .ref h31, .ref h32, .ref h33, .ref h34, .ref h35, .ref h36, .ref h37, .int a26, .int a27, .ref h38, .ref h39, .ref h40, .ref h41, .ref h42, .ref h43])), (h7, .inl (cI, 2, .inl g6)), (h8, .inl (cI, 18, .inl g7)), (h11, .inl (cI, 162, .inl g10)), (h14, .inl (cZ, 2, .inl g13)), (h16, .inl (cI, 1000, .inl g15)), (h17, .inl (cI, 1000, .inl g16)), (h20, .inl (cI, 70, .inl f_132)), (h21, .inl (cI, 81, .inl g20))]) [0, 1, 2, 3, 4, 5, 6, 7, 8] (by decide) rfl, hS, lv_sub hl [0, 2, 3, 4, 5] rfl, (rg_mono hx_133 (by decide) (by decide)), (rg_mono h_127 (by decide) (by decide)), (show cmI g15 a8 x_45 x_133 from m_128 _ qx_133)⟩ (by show ((1000) - x_133.toInt).toNat < ((1000) - x_44.toInt).toNat; have ha := h_100; simp only [rg] at ha; omega)
      · skip
        have h_134 : rg (0) (0) x_130 := by have ha := (rg_any x_130); have hb_ := (rg_k (x := 0) (c := 0) (by decide)); simp only [rg, fa_lt, fa_le, fa_eq, (by decide : (0 : Int32).toInt = 0)] at ha hb_ c_131; simp only [rg]; omega
        refine lv_iconst (v := 1) hx hb dX9_comes_60 (by decide) ?_
        refine lv_goto (tgt := 65) hx hb dX9_comes_61 (by decide) ?_
        refine va_iast hx hb hK hP hD hS 7 1 rfl rfl (rg_in (n := 70) (rg_mono hx_129 (by decide) (by decide))) dX9_comes_65 (fun H locs hP hD hS => ?_)
        obtain ⟨f_135, ef_135⟩ : ∃ f : Nat → Int32, f = upd f_43 (x_129 : Int32).toNatClampNeg 1 := ⟨_, rfl⟩
        rw [← ef_135] at hP hD
        clear ef_135
        replace hP : va_P (dC, dI) vwCl [(h0, .inr (9, [.ref h1, .ref h2, .int a0, .int a1, .int a2, .int a3, .int a4, .int a5, .int a6, .int a7, .long y0, .ref h3, .ref h4, .ref h5, .ref h6, .ref h7, .ref h8, .ref h9, .ref h10, .ref h11, .ref h12, .ref h13, .ref h14, .ref h15, .ref h16, .ref h17, .ref h18, .ref h19, .ref h20, .int a8, .int a9, .int a10, .int a11, .int a12, .ref h21, .ref h22, .ref h23, .int a13, .int a14, .int a15, .int a16, .int a17, .ref h24, .ref h25, .ref h26, .ref h27, .int a18, .int a19, .int a20, .int a21, .int a22, .int a23, .int a24, .ref h28, .ref h29, .ref h30, .int a25, .ref h31, .ref h32, .ref h33, .ref h34, .ref h35, .ref h36, .ref h37, .int a26, .int a27, .ref h38, .ref h39, .ref h40, .ref h41, .ref h42, .ref h43])), (h7, .inl (cI, 2, .inl g6)), (h8, .inl (cI, 18, .inl g7)), (h11, .inl (cI, 162, .inl g10)), (h14, .inl (cZ, 2, .inl g13)), (h16, .inl (cI, 1000, .inl g15)), (h17, .inl (cI, 1000, .inl g16)), (h20, .inl (cI, 70, .inl f_135)), (h21, .inl (cI, 81, .inl g20))] H := hP
        replace hD : va_D A [(h0, .inr (9, [.ref h1, .ref h2, .int a0, .int a1, .int a2, .int a3, .int a4, .int a5, .int a6, .int a7, .long y0, .ref h3, .ref h4, .ref h5, .ref h6, .ref h7, .ref h8, .ref h9, .ref h10, .ref h11, .ref h12, .ref h13, .ref h14, .ref h15, .ref h16, .ref h17, .ref h18, .ref h19, .ref h20, .int a8, .int a9, .int a10, .int a11, .int a12, .ref h21, .ref h22, .ref h23, .int a13, .int a14, .int a15, .int a16, .int a17, .ref h24, .ref h25, .ref h26, .ref h27, .int a18, .int a19, .int a20, .int a21, .int a22, .int a23, .int a24, .ref h28, .ref h29, .ref h30, .int a25, .ref h31, .ref h32, .ref h33, .ref h34, .ref h35, .ref h36, .ref h37, .int a26, .int a27, .ref h38, .ref h39, .ref h40, .ref h41, .ref h42, .ref h43])), (h7, .inl (cI, 2, .inl g6)), (h8, .inl (cI, 18, .inl g7)), (h11, .inl (cI, 162, .inl g10)), (h14, .inl (cZ, 2, .inl g13)), (h16, .inl (cI, 1000, .inl g15)), (h17, .inl (cI, 1000, .inl g16)), (h20, .inl (cI, 70, .inl f_135)), (h21, .inl (cI, 81, .inl g20))] := hD
        refine lv_goto (tgt := 127) hx hb dX9_comes_66 (by decide) ?_
        obtain ⟨x_136, ex_136⟩ : ∃ y : Int32, y = x_44 + Int32.ofInt (1) := ⟨_, rfl⟩
        have hx_136 : rg (1) (1000) x_136 := by rw [ex_136]; exact rg_mono (rg_add h_100 (rg_k (x := Int32.ofInt (1)) (c := 1) (by decide)) (by decide) (by decide)) (by decide) (by decide)
        have qx_136 : x_136.toInt = x_44.toInt + (1) := by rw [ex_136]; exact rg_addE h_100 (rg_k (x := Int32.ofInt (1)) (c := 1) (by decide)) (by decide) (by decide) (by decide)
        refine lv_iinc (v := x_136) (lv' := [(4, .int x_136), (5, .int x_103), (3, .int x_45), (0, .ref h0), (1, .int p0), (2, .int p1)]) hx hb dX9_comes_127 hl (k := 1) rfl (ex_136.symm) (by decide) rfl (fun ls hl => ?_)
        clear ex_136
        refine lv_goto (tgt := 12) hx hb dX9_comes_130 (by decide) ?_
        exact ih_88 (f_135, x_136, x_45) H locs ls ⟨hP.sub (ws' := [(h0, .inr (9, [.ref h1, .ref h2, .int a0, .int a1, .int a2, .int a3, .int a4, .int a5, .int a6, .int a7, .long y0, .ref h3, .ref h4, .ref h5, .ref h6, .ref h7, .ref h8, .ref h9, .ref h10, .ref h11, .ref h12, .ref h13, .ref h14, .ref h15, .ref h16, .ref h17, .ref h18, .ref h19, .ref h20, .int a8, .int a9, .int a10, .int a11, .int a12, .ref h21, .ref h22, .ref h23, .int a13, .int a14, .int a15, .int a16, .int a17, .ref h24, .ref h25, .ref h26, .ref h27, .int a18, .int a19, .int a20, .int a21, .int a22, .int a23, .int a24, .ref h28, .ref h29, .ref h30, .int a25, .ref h31, .ref h32, .ref h33, .ref h34, .ref h35, .ref h36, .ref h37, .int a26, .int a27, .ref h38, .ref h39, .ref h40, .ref h41, .ref h42, .ref h43])), (h7, .inl (cI, 2, .inl g6)), (h8, .inl (cI, 18, .inl g7)), (h11, .inl (cI, 162, .inl g10)), (h14, .inl (cZ, 2, .inl g13)), (h16, .inl (cI, 1000, .inl g15)), (h17, .inl (cI, 1000, .inl g16)), (h20, .inl (cI, 70, .inl f_135)), (h21, .inl (cI, 81, .inl g20))]) [0, 1, 2, 3, 4, 5, 6, 7, 8] rfl, hD.sub (ws' := [(h0, .inr (9, [.ref h1, .ref h2, .int a0, .int a1, .int a2, .int a3, .int a4, .int a5, .int a6, .int a7, .long y0, .ref h3, .ref h4, .ref h5, .ref h6, .ref h7, .ref h8, .ref h9, .ref h10, .ref h11, .ref h12, .ref h13, .ref h14, .ref h15, .ref h16, .ref h17, .ref h18, .ref h19, .ref h20, .int a8, .int a9, .int a10, .int a11, .int a12, .ref h21, .ref h22, .ref h23, .int a13, .int a14, .int a15, .int a16, .int a17, .ref h24, .ref h25, .ref h26, .ref h27, .int a18, .int a19, .int a20, .int a21, .int a22, .int a23, .int a24, .ref h28, .ref h29, .ref h30, .int a25, .ref h31, .ref h32, .ref h33, .ref h34, .ref h35, .ref h36, .ref h37, .int a26, .int a27, .ref h38, .ref h39, .ref h40, .ref h41, .ref h42, .ref h43])), (h7, .inl (cI, 2, .inl g6)), (h8, .inl (cI, 18, .inl g7)), (h11, .inl (cI, 162, .inl g10)), (h14, .inl (cZ, 2, .inl g13)), (h16, .inl (cI, 1000, .inl g15)), (h17, .inl (cI, 1000, .inl g16)), (h20, .inl (cI, 70, .inl f_135)), (h21, .inl (cI, 81, .inl g20))]) [0, 1, 2, 3, 4, 5, 6, 7, 8] (by decide) rfl, hS, lv_sub hl [0, 2, 3, 4, 5] rfl, (rg_mono hx_136 (by decide) (by decide)), (rg_mono h_127 (by decide) (by decide)), (show cmI g15 a8 x_45 x_136 from m_128 _ qx_136)⟩ (by show ((1000) - x_136.toInt).toNat < ((1000) - x_44.toInt).toNat; have ha := h_100; simp only [rg] at ha; omega)
def v_s_X9_areLet : List Cond := Cond.code yX9_areLet cX9_areLet 3 (some .boolean) :: ([Cond.fieldLink RX9 42 "MayRingsModel" "quarrel" "[I", Cond.fieldLink RX9 248 "MayRingsModel" "bank" "I", Cond.methodLink RX9 368 yX9_comes, Cond.instanceMethod yX9_comes, Cond.selects RX9 yX9_comes yX9_comes, Cond.initialized RX9] ++ (wsX90 ++ (v_s_X9_comes ++ ([]))))
theorem k_s_X9_areLet : GoodIn lw_tbl v_s_X9_areLet := gd_c (List.mem_of_getElem? (i := 1617) (by decide +kernel)) rfl (goodIn_app (gd_c (List.mem_of_getElem? (i := 1253) (by decide +kernel)) rfl (gd_c (List.mem_of_getElem? (i := 1264) (by decide +kernel)) rfl (gd_c (List.mem_of_getElem? (i := 1618) (by decide +kernel)) rfl (gd_c (List.mem_of_getElem? (i := 1620) (by decide +kernel)) rfl (gd_c (List.mem_of_getElem? (i := 99) (by decide +kernel)) rfl (gd_c (List.mem_of_getElem? (i := 144) (by decide +kernel)) rfl (gd_nil))))))) (goodIn_app kfX9 (goodIn_app k_s_X9_comes (gd_nil))))
set_option maxHeartbeats 2000000 in
set_option maxRecDepth 100000 in
theorem c_s_X9_areLet (l : Launch) (dC : Nat → ClassId) (dI : Nat → Nat → Nat) (cB cI cJ cZ cP : ClassId) (h0 : Nat) (h1 : Nat) (h2 : Nat) (a0 : Int32) (a1 : Int32) (a2 : Int32) (a3 : Int32) (a4 : Int32) (a5 : Int32) (a6 : Int32) (a7 : Int32) (y0 : Int64) (h3 : Nat) (h4 : Nat) (h5 : Nat) (h6 : Nat) (h7 : Nat) (g6 : Nat → Int32) (hg6 : rgA (0) (1000) g6) (h8 : Nat) (g7 : Nat → Int32) (h9 : Nat) (h10 : Nat) (g9 : Nat → Int32) (h11 : Nat) (g10 : Nat → Int32) (h12 : Nat) (h13 : Nat) (h14 : Nat) (g13 : Nat → Int32) (hg13 : rgA (0) (1) g13) (h15 : Nat) (h16 : Nat) (g15 : Nat → Int32) (h17 : Nat) (g16 : Nat → Int32) (h18 : Nat) (h19 : Nat) (h20 : Nat) (g19 : Nat → Int32) (a8 : Int32) (ha8 : rg (0) (1) a8) (a9 : Int32) (a10 : Int32) (a11 : Int32) (a12 : Int32) (h21 : Nat) (g20 : Nat → Int32) (h22 : Nat) (h23 : Nat) (a13 : Int32) (ha13 : rg (0) (200) a13) (a14 : Int32) (a15 : Int32) (a16 : Int32) (a17 : Int32) (h24 : Nat) (h25 : Nat) (h26 : Nat) (h27 : Nat) (a18 : Int32) (a19 : Int32) (a20 : Int32) (a21 : Int32) (a22 : Int32) (a23 : Int32) (a24 : Int32) (h28 : Nat) (h29 : Nat) (h30 : Nat) (a25 : Int32) (h31 : Nat) (h32 : Nat) (h33 : Nat) (h34 : Nat) (h35 : Nat) (h36 : Nat) (h37 : Nat) (a26 : Int32) (a27 : Int32) (h38 : Nat) (h39 : Nat) (h40 : Nat) (h41 : Nat) (h42 : Nat) (h43 : Nat) (p0 : Int32) (hp0 : rg (0) (8) p0) (p1 : Int32) (hp1 : rg (0) (8) p1) (kr0 : gcd_ g15 g6 a8) (sz : Nat) : Met l yX9_areLet v_s_X9_areLet ({ frames := 3, cells := 0, slots := 0, locals := 73 }) (va_Pc [.ref h0, .int p0, .int p1] (fun U => U.heap.size = sz ∧ va_P (dC, dI) vwCl [(h0, .inr (9, [.ref h1, .ref h2, .int a0, .int a1, .int a2, .int a3, .int a4, .int a5, .int a6, .int a7, .long y0, .ref h3, .ref h4, .ref h5, .ref h6, .ref h7, .ref h8, .ref h9, .ref h10, .ref h11, .ref h12, .ref h13, .ref h14, .ref h15, .ref h16, .ref h17, .ref h18, .ref h19, .ref h20, .int a8, .int a9, .int a10, .int a11, .int a12, .ref h21, .ref h22, .ref h23, .int a13, .int a14, .int a15, .int a16, .int a17, .ref h24, .ref h25, .ref h26, .ref h27, .int a18, .int a19, .int a20, .int a21, .int a22, .int a23, .int a24, .ref h28, .ref h29, .ref h30, .int a25, .ref h31, .ref h32, .ref h33, .ref h34, .ref h35, .ref h36, .ref h37, .int a26, .int a27, .ref h38, .ref h39, .ref h40, .ref h41, .ref h42, .ref h43])), (h7, .inl (cI, 2, .inl g6)), (h8, .inl (cI, 18, .inl g7)), (h10, .inl (cI, 18, .inl g9)), (h11, .inl (cI, 162, .inl g10)), (h14, .inl (cZ, 2, .inl g13)), (h16, .inl (cI, 1000, .inl g15)), (h17, .inl (cI, 1000, .inl g16)), (h20, .inl (cI, 70, .inl g19)), (h21, .inl (cI, 81, .inl g20))] U.heap ∧ va_K (dC, dI) vwCl (ty5 cB cI cJ cZ cP) U ∧ va_D (fun _ => True) [(h0, .inr (9, [.ref h1, .ref h2, .int a0, .int a1, .int a2, .int a3, .int a4, .int a5, .int a6, .int a7, .long y0, .ref h3, .ref h4, .ref h5, .ref h6, .ref h7, .ref h8, .ref h9, .ref h10, .ref h11, .ref h12, .ref h13, .ref h14, .ref h15, .ref h16, .ref h17, .ref h18, .ref h19, .ref h20, .int a8, .int a9, .int a10, .int a11, .int a12, .ref h21, .ref h22, .ref h23, .int a13, .int a14, .int a15, .int a16, .int a17, .ref h24, .ref h25, .ref h26, .ref h27, .int a18, .int a19, .int a20, .int a21, .int a22, .int a23, .int a24, .ref h28, .ref h29, .ref h30, .int a25, .ref h31, .ref h32, .ref h33, .ref h34, .ref h35, .ref h36, .ref h37, .int a26, .int a27, .ref h38, .ref h39, .ref h40, .ref h41, .ref h42, .ref h43])), (h7, .inl (cI, 2, .inl g6)), (h8, .inl (cI, 18, .inl g7)), (h10, .inl (cI, 18, .inl g9)), (h11, .inl (cI, 162, .inl g10)), (h14, .inl (cZ, 2, .inl g13)), (h16, .inl (cI, 1000, .inl g15)), (h17, .inl (cI, 1000, .inl g16)), (h20, .inl (cI, 70, .inl g19)), (h21, .inl (cI, 81, .inl g20))])) (va_Qi (fun (r : Int32) (u9 : Unit) => rg (0) (1) r) (fun u9 t => ∃ (z0 : Nat → Int32), va_P (dC, dI) vwCl [(h0, .inr (9, [.ref h1, .ref h2, .int a0, .int a1, .int a2, .int a3, .int a4, .int a5, .int a6, .int a7, .long y0, .ref h3, .ref h4, .ref h5, .ref h6, .ref h7, .ref h8, .ref h9, .ref h10, .ref h11, .ref h12, .ref h13, .ref h14, .ref h15, .ref h16, .ref h17, .ref h18, .ref h19, .ref h20, .int a8, .int a9, .int a10, .int a11, .int a12, .ref h21, .ref h22, .ref h23, .int a13, .int a14, .int a15, .int a16, .int a17, .ref h24, .ref h25, .ref h26, .ref h27, .int a18, .int a19, .int a20, .int a21, .int a22, .int a23, .int a24, .ref h28, .ref h29, .ref h30, .int a25, .ref h31, .ref h32, .ref h33, .ref h34, .ref h35, .ref h36, .ref h37, .int a26, .int a27, .ref h38, .ref h39, .ref h40, .ref h41, .ref h42, .ref h43])), (h7, .inl (cI, 2, .inl g6)), (h8, .inl (cI, 18, .inl g7)), (h10, .inl (cI, 18, .inl g9)), (h11, .inl (cI, 162, .inl g10)), (h14, .inl (cZ, 2, .inl g13)), (h16, .inl (cI, 1000, .inl g15)), (h17, .inl (cI, 1000, .inl g16)), (h20, .inl (cI, 70, .inl z0)), (h21, .inl (cI, 81, .inl g20))] t.heap ∧ va_D (va_A [(h0, .inr (9, [.ref h1, .ref h2, .int a0, .int a1, .int a2, .int a3, .int a4, .int a5, .int a6, .int a7, .long y0, .ref h3, .ref h4, .ref h5, .ref h6, .ref h7, .ref h8, .ref h9, .ref h10, .ref h11, .ref h12, .ref h13, .ref h14, .ref h15, .ref h16, .ref h17, .ref h18, .ref h19, .ref h20, .int a8, .int a9, .int a10, .int a11, .int a12, .ref h21, .ref h22, .ref h23, .int a13, .int a14, .int a15, .int a16, .int a17, .ref h24, .ref h25, .ref h26, .ref h27, .int a18, .int a19, .int a20, .int a21, .int a22, .int a23, .int a24, .ref h28, .ref h29, .ref h30, .int a25, .ref h31, .ref h32, .ref h33, .ref h34, .ref h35, .ref h36, .ref h37, .int a26, .int a27, .ref h38, .ref h39, .ref h40, .ref h41, .ref h42, .ref h43])), (h7, .inl (cI, 2, .inl g6)), (h8, .inl (cI, 18, .inl g7)), (h10, .inl (cI, 18, .inl g9)), (h11, .inl (cI, 162, .inl g10)), (h14, .inl (cZ, 2, .inl g13)), (h16, .inl (cI, 1000, .inl g15)), (h17, .inl (cI, 1000, .inl g16)), (h20, .inl (cI, 70, .inl g19)), (h21, .inl (cI, 81, .inl g20))] sz) [(h0, .inr (9, [.ref h1, .ref h2, .int a0, .int a1, .int a2, .int a3, .int a4, .int a5, .int a6, .int a7, .long y0, .ref h3, .ref h4, .ref h5, .ref h6, .ref h7, .ref h8, .ref h9, .ref h10, .ref h11, .ref h12, .ref h13, .ref h14, .ref h15, .ref h16, .ref h17, .ref h18, .ref h19, .ref h20, .int a8, .int a9, .int a10, .int a11, .int a12, .ref h21, .ref h22, .ref h23, .int a13, .int a14, .int a15, .int a16, .int a17, .ref h24, .ref h25, .ref h26, .ref h27, .int a18, .int a19, .int a20, .int a21, .int a22, .int a23, .int a24, .ref h28, .ref h29, .ref h30, .int a25, .ref h31, .ref h32, .ref h33, .ref h34, .ref h35, .ref h36, .ref h37, .int a26, .int a27, .ref h38, .ref h39, .ref h40, .ref h41, .ref h42, .ref h43])), (h7, .inl (cI, 2, .inl g6)), (h8, .inl (cI, 18, .inl g7)), (h10, .inl (cI, 18, .inl g9)), (h11, .inl (cI, 162, .inl g10)), (h14, .inl (cZ, 2, .inl g13)), (h16, .inl (cI, 1000, .inl g15)), (h17, .inl (cI, 1000, .inl g16)), (h20, .inl (cI, 70, .inl z0)), (h21, .inl (cI, 81, .inl g20))]) (va_A [(h0, .inr (9, [.ref h1, .ref h2, .int a0, .int a1, .int a2, .int a3, .int a4, .int a5, .int a6, .int a7, .long y0, .ref h3, .ref h4, .ref h5, .ref h6, .ref h7, .ref h8, .ref h9, .ref h10, .ref h11, .ref h12, .ref h13, .ref h14, .ref h15, .ref h16, .ref h17, .ref h18, .ref h19, .ref h20, .int a8, .int a9, .int a10, .int a11, .int a12, .ref h21, .ref h22, .ref h23, .int a13, .int a14, .int a15, .int a16, .int a17, .ref h24, .ref h25, .ref h26, .ref h27, .int a18, .int a19, .int a20, .int a21, .int a22, .int a23, .int a24, .ref h28, .ref h29, .ref h30, .int a25, .ref h31, .ref h32, .ref h33, .ref h34, .ref h35, .ref h36, .ref h37, .int a26, .int a27, .ref h38, .ref h39, .ref h40, .ref h41, .ref h42, .ref h43])), (h7, .inl (cI, 2, .inl g6)), (h8, .inl (cI, 18, .inl g7)), (h10, .inl (cI, 18, .inl g9)), (h11, .inl (cI, 162, .inl g10)), (h14, .inl (cZ, 2, .inl g13)), (h16, .inl (cI, 1000, .inl g15)), (h17, .inl (cI, 1000, .inl g16)), (h20, .inl (cI, 70, .inl g19)), (h21, .inl (cI, 81, .inl g20))] sz)) 0 0 (va_A [(h0, .inr (9, [.ref h1, .ref h2, .int a0, .int a1, .int a2, .int a3, .int a4, .int a5, .int a6, .int a7, .long y0, .ref h3, .ref h4, .ref h5, .ref h6, .ref h7, .ref h8, .ref h9, .ref h10, .ref h11, .ref h12, .ref h13, .ref h14, .ref h15, .ref h16, .ref h17, .ref h18, .ref h19, .ref h20, .int a8, .int a9, .int a10, .int a11, .int a12, .ref h21, .ref h22, .ref h23, .int a13, .int a14, .int a15, .int a16, .int a17, .ref h24, .ref h25, .ref h26, .ref h27, .int a18, .int a19, .int a20, .int a21, .int a22, .int a23, .int a24, .ref h28, .ref h29, .ref h30, .int a25, .ref h31, .ref h32, .ref h33, .ref h34, .ref h35, .ref h36, .ref h37, .int a26, .int a27, .ref h38, .ref h39, .ref h40, .ref h41, .ref h42, .ref h43])), (h7, .inl (cI, 2, .inl g6)), (h8, .inl (cI, 18, .inl g7)), (h10, .inl (cI, 18, .inl g9)), (h11, .inl (cI, 162, .inl g10)), (h14, .inl (cZ, 2, .inl g13)), (h16, .inl (cI, 1000, .inl g15)), (h17, .inl (cI, 1000, .inl g16)), (h20, .inl (cI, 70, .inl g19)), (h21, .inl (cI, 81, .inl g20))] sz) := by
  refine Met.ofW (cc := cX9_areLet) (maxL := 3) (ret := (some .boolean)) (by decide) rfl ?_
  intro p e s m args below meth c s₁ B hml hv
  obtain ⟨rfl, hsz, hP, hK, hD0⟩ := hv
  have hx := B.exec
  have hb := B.bytes
  have hr := B.returns
  have hts := atoms_spec (ws := v_s_X9_areLet) B.pre
  have hown : s.vm.findClass RX9 = some m.cls := findClass_of_methodNamed B.named
  have hlocks := B.notSynchronized
  have hinX9 : ∀ w ∈ wsX90, w ∈ v_s_X9_areLet := fun _ h => List.mem_cons_of_mem _ (List.mem_append_right _ (List.mem_append_left _ h))
  subst hsz
  have hD := hD0.self (sz := s.heap.size)
  generalize hAe : va_A [(h0, .inr (9, [.ref h1, .ref h2, .int a0, .int a1, .int a2, .int a3, .int a4, .int a5, .int a6, .int a7, .long y0, .ref h3, .ref h4, .ref h5, .ref h6, .ref h7, .ref h8, .ref h9, .ref h10, .ref h11, .ref h12, .ref h13, .ref h14, .ref h15, .ref h16, .ref h17, .ref h18, .ref h19, .ref h20, .int a8, .int a9, .int a10, .int a11, .int a12, .ref h21, .ref h22, .ref h23, .int a13, .int a14, .int a15, .int a16, .int a17, .ref h24, .ref h25, .ref h26, .ref h27, .int a18, .int a19, .int a20, .int a21, .int a22, .int a23, .int a24, .ref h28, .ref h29, .ref h30, .int a25, .ref h31, .ref h32, .ref h33, .ref h34, .ref h35, .ref h36, .ref h37, .int a26, .int a27, .ref h38, .ref h39, .ref h40, .ref h41, .ref h42, .ref h43])), (h7, .inl (cI, 2, .inl g6)), (h8, .inl (cI, 18, .inl g7)), (h10, .inl (cI, 18, .inl g9)), (h11, .inl (cI, 162, .inl g10)), (h14, .inl (cZ, 2, .inl g13)), (h16, .inl (cI, 1000, .inl g15)), (h17, .inl (cI, 1000, .inl g16)), (h20, .inl (cI, 70, .inl g19)), (h21, .inl (cI, 81, .inl g20))] s.heap.size = A at hD ⊢
  have hA : ∀ q : Nat, s.heap.size ≤ q → A q := fun q h => by rw [← hAe]; exact Or.inr h
  have hP : va_P (dC, dI) vwCl [(h0, .inr (9, [.ref h1, .ref h2, .int a0, .int a1, .int a2, .int a3, .int a4, .int a5, .int a6, .int a7, .long y0, .ref h3, .ref h4, .ref h5, .ref h6, .ref h7, .ref h8, .ref h9, .ref h10, .ref h11, .ref h12, .ref h13, .ref h14, .ref h15, .ref h16, .ref h17, .ref h18, .ref h19, .ref h20, .int a8, .int a9, .int a10, .int a11, .int a12, .ref h21, .ref h22, .ref h23, .int a13, .int a14, .int a15, .int a16, .int a17, .ref h24, .ref h25, .ref h26, .ref h27, .int a18, .int a19, .int a20, .int a21, .int a22, .int a23, .int a24, .ref h28, .ref h29, .ref h30, .int a25, .ref h31, .ref h32, .ref h33, .ref h34, .ref h35, .ref h36, .ref h37, .int a26, .int a27, .ref h38, .ref h39, .ref h40, .ref h41, .ref h42, .ref h43])), (h7, .inl (cI, 2, .inl g6)), (h8, .inl (cI, 18, .inl g7)), (h10, .inl (cI, 18, .inl g9)), (h11, .inl (cI, 162, .inl g10)), (h14, .inl (cZ, 2, .inl g13)), (h16, .inl (cI, 1000, .inl g15)), (h17, .inl (cI, 1000, .inl g16)), (h20, .inl (cI, 70, .inl g19)), (h21, .inl (cI, 81, .inl g20))] s.heap := hP
  have hl := lv_entry ([.ref h0, .int p0, .int p1]) (n := 3) (Nat.le_of_ble_eq_true rfl)
  rw [lg_entry_eq]
  generalize (lg_sl ([.ref h0, .int p0, .int p1]) ++ List.replicate (3 - (lg_sl ([.ref h0, .int p0, .int p1])).length) Slot.unset).toArray = ls at hl ⊢
  have hl : lv_has ls 3 [(0, .ref h0), (1, .int p0), (2, .int p1)] := hl
  refine W_gen (A := A) hP (fun H locs hP hS => ?_)
  refine lv_aload_n hx hb dX9_areLet_0 rfl (lv_at hl 0 rfl) ?_
  refine va_get (D := (dC, dI)) (ci := 9) (v := .ref h10) (C := RX9) (T := TX9) (N := 72) hx hb hts hinX9 hown hK hP 0 rfl rfl 18 (by decide) (hts (.fieldLink RX9 42 "MayRingsModel" "quarrel" "[I") (List.mem_of_getElem? (i := 1) rfl)) (fun _ h9 => h9) rfl dX9_areLet_1 ?_
  refine lv_bipush (v := 9) hx hb dX9_areLet_4 (by decide) ?_
  refine lv_aload_n hx hb dX9_areLet_6 rfl (lv_at hl 0 rfl) ?_
  refine va_get (D := (dC, dI)) (ci := 9) (v := .int a8) (C := RX9) (T := TX9) (N := 72) hx hb hts hinX9 hown hK hP 0 rfl rfl 29 (by decide) (hts (.fieldLink RX9 248 "MayRingsModel" "bank" "I") (List.mem_of_getElem? (i := 2) rfl)) (fun _ h9 => h9) rfl dX9_areLet_7 ?_
  refine lv_imul hx hb dX9_areLet_10 ?_
  refine lv_topi (fun x_1 ex_1 => ?_)
  have hx_1 : rg (0) (9) x_1 := by rw [ex_1]; exact rg_mono (rg_mul (rg_k (x := 9) (c := 9) (by decide)) ha8 (by decide) (by decide) (by decide)) (by decide) (by decide)
  refine lv_iload_n hx hb dX9_areLet_11 rfl (lv_at hl 1 rfl) ?_
  refine lv_iadd hx hb dX9_areLet_12 ?_
  refine lv_topi (fun x_2 ex_2 => ?_)
  have hx_2 : rg (0) (17) x_2 := by rw [ex_2]; exact rg_mono (rg_add hx_1 hp0 (by decide) (by decide)) (by decide) (by decide)
  have qx_2 : x_2.toInt = x_1.toInt + p0.toInt := by rw [ex_2]; exact rg_addQ hx_1 hp0 (by decide) (by decide)
  refine va_iald hx hb hK hP 3 1 rfl rfl (rg_in (n := 18) (rg_mono hx_2 (by decide) (by decide))) dX9_areLet_13 ?_
  refine lv_topi (fun x_3 ex_3 => ?_)
  refine lv_iload_n hx hb dX9_areLet_14 rfl (lv_at hl 2 rfl) ?_
  refine lv_ishr hx hb dX9_areLet_15 ?_
  refine lv_topi (fun x_4 ex_4 => ?_)
  refine lv_iconst (v := 1) hx hb dX9_areLet_16 (by decide) ?_
  refine lv_iand hx hb dX9_areLet_17 ?_
  refine lv_topi (fun x_5 ex_5 => ?_)
  have hx_5 : rg (0) (1) x_5 := by rw [ex_5]; exact rg_mono (rg_andr (b := 1) (rg_mono (rg_k (x := 1) (c := 1) (by decide)) (by decide) (by decide))) (by decide) (by decide)
  refine lv_if_ne (tgt := 34) hx hb dX9_areLet_18 (by decide) (fun c_6 => ?_) (fun c_6 => ?_)
  · skip
    have h_7 : rg (1) (1) x_5 := by have ha := hx_5; have hb_ := (rg_k (x := 0) (c := 0) (by decide)); simp only [rg, fa_lt, fa_le, fa_eq, (by decide : (0 : Int32).toInt = 0)] at ha hb_ c_6; simp only [rg]; omega
    refine lv_iconst (v := 0) hx hb dX9_areLet_34 (by decide) ?_
    have hP9 := hP.sub (ws' := [(h0, .inr (9, [.ref h1, .ref h2, .int a0, .int a1, .int a2, .int a3, .int a4, .int a5, .int a6, .int a7, .long y0, .ref h3, .ref h4, .ref h5, .ref h6, .ref h7, .ref h8, .ref h9, .ref h10, .ref h11, .ref h12, .ref h13, .ref h14, .ref h15, .ref h16, .ref h17, .ref h18, .ref h19, .ref h20, .int a8, .int a9, .int a10, .int a11, .int a12, .ref h21, .ref h22, .ref h23, .int a13, .int a14, .int a15, .int a16, .int a17, .ref h24, .ref h25, .ref h26, .ref h27, .int a18, .int a19, .int a20, .int a21, .int a22, .int a23, .int a24, .ref h28, .ref h29, .ref h30, .int a25, .ref h31, .ref h32, .ref h33, .ref h34, .ref h35, .ref h36, .ref h37, .int a26, .int a27, .ref h38, .ref h39, .ref h40, .ref h41, .ref h42, .ref h43])), (h7, .inl (cI, 2, .inl g6)), (h8, .inl (cI, 18, .inl g7)), (h10, .inl (cI, 18, .inl g9)), (h11, .inl (cI, 162, .inl g10)), (h14, .inl (cZ, 2, .inl g13)), (h16, .inl (cI, 1000, .inl g15)), (h17, .inl (cI, 1000, .inl g16)), (h20, .inl (cI, 70, .inl g19)), (h21, .inl (cI, 81, .inl g20))]) [0, 1, 2, 3, 4, 5, 6, 7, 8, 9] rfl
    have hD9 := hD.sub (ws' := [(h0, .inr (9, [.ref h1, .ref h2, .int a0, .int a1, .int a2, .int a3, .int a4, .int a5, .int a6, .int a7, .long y0, .ref h3, .ref h4, .ref h5, .ref h6, .ref h7, .ref h8, .ref h9, .ref h10, .ref h11, .ref h12, .ref h13, .ref h14, .ref h15, .ref h16, .ref h17, .ref h18, .ref h19, .ref h20, .int a8, .int a9, .int a10, .int a11, .int a12, .ref h21, .ref h22, .ref h23, .int a13, .int a14, .int a15, .int a16, .int a17, .ref h24, .ref h25, .ref h26, .ref h27, .int a18, .int a19, .int a20, .int a21, .int a22, .int a23, .int a24, .ref h28, .ref h29, .ref h30, .int a25, .ref h31, .ref h32, .ref h33, .ref h34, .ref h35, .ref h36, .ref h37, .int a26, .int a27, .ref h38, .ref h39, .ref h40, .ref h41, .ref h42, .ref h43])), (h7, .inl (cI, 2, .inl g6)), (h8, .inl (cI, 18, .inl g7)), (h10, .inl (cI, 18, .inl g9)), (h11, .inl (cI, 162, .inl g10)), (h14, .inl (cZ, 2, .inl g13)), (h16, .inl (cI, 1000, .inl g15)), (h17, .inl (cI, 1000, .inl g16)), (h20, .inl (cI, 70, .inl g19)), (h21, .inl (cI, 81, .inl g20))]) [0, 1, 2, 3, 4, 5, 6, 7, 8, 9] (by decide) rfl
    exact W.zret (v := 0) hx hb hr (rfl) (fun t ht hW => ⟨⟨0, (), rfl, (rg_mono (rg_k (x := 0) (c := 0) (by decide)) (by decide) (by decide)), ⟨g19, by rw [ht]; exact hP9, hD9⟩⟩, hS.F ht⟩) hS.2.2 dX9_areLet_35
  · skip
    have h_8 : rg (0) (0) x_5 := by have ha := hx_5; have hb_ := (rg_k (x := 0) (c := 0) (by decide)); simp only [rg, fa_lt, fa_le, fa_eq, (by decide : (0 : Int32).toInt = 0)] at ha hb_ c_6; simp only [rg]; omega
    refine lv_aload_n hx hb dX9_areLet_21 rfl (lv_at hl 0 rfl) ?_
    refine lv_iload_n hx hb dX9_areLet_22 rfl (lv_at hl 1 rfl) ?_
    refine lv_iload_n hx hb dX9_areLet_23 rfl (lv_at hl 2 rfl) ?_
    have hPc := hP.sub (ws' := [(h0, .inr (9, [.ref h1, .ref h2, .int a0, .int a1, .int a2, .int a3, .int a4, .int a5, .int a6, .int a7, .long y0, .ref h3, .ref h4, .ref h5, .ref h6, .ref h7, .ref h8, .ref h9, .ref h10, .ref h11, .ref h12, .ref h13, .ref h14, .ref h15, .ref h16, .ref h17, .ref h18, .ref h19, .ref h20, .int a8, .int a9, .int a10, .int a11, .int a12, .ref h21, .ref h22, .ref h23, .int a13, .int a14, .int a15, .int a16, .int a17, .ref h24, .ref h25, .ref h26, .ref h27, .int a18, .int a19, .int a20, .int a21, .int a22, .int a23, .int a24, .ref h28, .ref h29, .ref h30, .int a25, .ref h31, .ref h32, .ref h33, .ref h34, .ref h35, .ref h36, .ref h37, .int a26, .int a27, .ref h38, .ref h39, .ref h40, .ref h41, .ref h42, .ref h43])), (h7, .inl (cI, 2, .inl g6)), (h8, .inl (cI, 18, .inl g7)), (h11, .inl (cI, 162, .inl g10)), (h14, .inl (cZ, 2, .inl g13)), (h16, .inl (cI, 1000, .inl g15)), (h17, .inl (cI, 1000, .inl g16)), (h20, .inl (cI, 70, .inl g19)), (h21, .inl (cI, 81, .inl g20))]) [0, 1, 2, 4, 5, 6, 7, 8, 9] rfl
    have hDc := hD.sub (ws' := [(h0, .inr (9, [.ref h1, .ref h2, .int a0, .int a1, .int a2, .int a3, .int a4, .int a5, .int a6, .int a7, .long y0, .ref h3, .ref h4, .ref h5, .ref h6, .ref h7, .ref h8, .ref h9, .ref h10, .ref h11, .ref h12, .ref h13, .ref h14, .ref h15, .ref h16, .ref h17, .ref h18, .ref h19, .ref h20, .int a8, .int a9, .int a10, .int a11, .int a12, .ref h21, .ref h22, .ref h23, .int a13, .int a14, .int a15, .int a16, .int a17, .ref h24, .ref h25, .ref h26, .ref h27, .int a18, .int a19, .int a20, .int a21, .int a22, .int a23, .int a24, .ref h28, .ref h29, .ref h30, .int a25, .ref h31, .ref h32, .ref h33, .ref h34, .ref h35, .ref h36, .ref h37, .int a26, .int a27, .ref h38, .ref h39, .ref h40, .ref h41, .ref h42, .ref h43])), (h7, .inl (cI, 2, .inl g6)), (h8, .inl (cI, 18, .inl g7)), (h11, .inl (cI, 162, .inl g10)), (h14, .inl (cZ, 2, .inl g13)), (h16, .inl (cI, 1000, .inl g15)), (h17, .inl (cI, 1000, .inl g16)), (h20, .inl (cI, 70, .inl g19)), (h21, .inl (cI, 81, .inl g20))]) [0, 1, 2, 4, 5, 6, 7, 8, 9] (by decide) rfl
    have hFc := va_free (wc := [(h0, .inr (9, [.ref h1, .ref h2, .int a0, .int a1, .int a2, .int a3, .int a4, .int a5, .int a6, .int a7, .long y0, .ref h3, .ref h4, .ref h5, .ref h6, .ref h7, .ref h8, .ref h9, .ref h10, .ref h11, .ref h12, .ref h13, .ref h14, .ref h15, .ref h16, .ref h17, .ref h18, .ref h19, .ref h20, .int a8, .int a9, .int a10, .int a11, .int a12, .ref h21, .ref h22, .ref h23, .int a13, .int a14, .int a15, .int a16, .int a17, .ref h24, .ref h25, .ref h26, .ref h27, .int a18, .int a19, .int a20, .int a21, .int a22, .int a23, .int a24, .ref h28, .ref h29, .ref h30, .int a25, .ref h31, .ref h32, .ref h33, .ref h34, .ref h35, .ref h36, .ref h37, .int a26, .int a27, .ref h38, .ref h39, .ref h40, .ref h41, .ref h42, .ref h43])), (h7, .inl (cI, 2, .inl g6)), (h8, .inl (cI, 18, .inl g7)), (h11, .inl (cI, 162, .inl g10)), (h14, .inl (cZ, 2, .inl g13)), (h16, .inl (cI, 1000, .inl g15)), (h17, .inl (cI, 1000, .inl g16)), (h20, .inl (cI, 70, .inl g19)), (h21, .inl (cI, 81, .inl g20))]) hD hS hA [0, 1, 2, 4, 5, 6, 7, 8, 9] rfl
    refine va_calli (va_runV (As := [.int p0, .int p1]) (rest := []) ⟨hx, hb, hml, hown, hts⟩ (c_s_X9_comes l dC dI cB cI cJ cZ cP h0 h1 h2 a0 a1 a2 a3 a4 a5 a6 a7 y0 h3 h4 h5 h6 h7 g6 hg6 h8 g7 h9 h10 h11 g10 h12 h13 h14 g13 hg13 h15 h16 g15 h17 g16 h18 h19 h20 g19 a8 (rg_mono ha8 (by decide) (by decide)) a9 a10 a11 a12 h21 g20 h22 h23 a13 (rg_mono ha13 (by decide) (by decide)) a14 a15 a16 a17 h24 h25 h26 h27 a18 a19 a20 a21 a22 a23 a24 h28 h29 h30 a25 h31 h32 h33 h34 h35 h36 h37 a26 a27 h38 h39 h40 h41 h42 h43 p0 (rg_mono hp0 (by decide) (by decide)) p1 (rg_mono hp1 (by decide) (by decide)) kr0 H.size) (cwV 2 hts (gd_V (List.mem_of_getElem? (i := 3) rfl) (List.mem_of_getElem? (i := 4) rfl) (List.mem_of_getElem? (i := 5) rfl) (List.mem_of_getElem? (i := 6) rfl) (gd_mono k_s_X9_comes (fun _ h => List.mem_cons_of_mem _ (List.mem_append_right _ (List.mem_append_right _ (List.mem_append_left _ h)))))) rfl rfl rfl (by decide +kernel) ⟨Nat.le_of_ble_eq_true rfl, Nat.le_of_ble_eq_true rfl⟩) ⟨fun a U g mk q => by obtain ⟨q0, q1, qP, qK, qD⟩ := q; exact ⟨q0, q1, qP, va_K.moved (u := U) (U := U.calling g mk a) (Vm.Alike.refl U.vm) qK, qD⟩, va_recv hK hPc (ci := 9) (q0 := 0) rfl rfl, fun U hU hW => ⟨rfl, by rw [hU], by rw [hU]; exact hPc, va_K.moved hW.alike hK, hDc.weaken (fun _ _ _ _ => trivial)⟩⟩ rfl rfl hl.1 rfl (lv_room (Nat.le_of_ble_eq_true rfl)) dX9_areLet_24 ⟨Nat.le_of_ble_eq_true rfl, Nat.le_of_ble_eq_true rfl⟩) hS (fun q _ h => hFc q h) hFc (fun r_9 u t H1 locs ht hvm hw hB hz1 hk1 hS => ?_)
    obtain ⟨f_10, hP1, hD1⟩ := hB
    rw [ht] at hP1
    obtain ⟨hP, hD⟩ := va_join (wr := [(h10, .inl (cI, 18, .inl g9))]) (w1 := [(h0, .inr (9, [.ref h1, .ref h2, .int a0, .int a1, .int a2, .int a3, .int a4, .int a5, .int a6, .int a7, .long y0, .ref h3, .ref h4, .ref h5, .ref h6, .ref h7, .ref h8, .ref h9, .ref h10, .ref h11, .ref h12, .ref h13, .ref h14, .ref h15, .ref h16, .ref h17, .ref h18, .ref h19, .ref h20, .int a8, .int a9, .int a10, .int a11, .int a12, .ref h21, .ref h22, .ref h23, .int a13, .int a14, .int a15, .int a16, .int a17, .ref h24, .ref h25, .ref h26, .ref h27, .int a18, .int a19, .int a20, .int a21, .int a22, .int a23, .int a24, .ref h28, .ref h29, .ref h30, .int a25, .ref h31, .ref h32, .ref h33, .ref h34, .ref h35, .ref h36, .ref h37, .int a26, .int a27, .ref h38, .ref h39, .ref h40, .ref h41, .ref h42, .ref h43])), (h7, .inl (cI, 2, .inl g6)), (h8, .inl (cI, 18, .inl g7)), (h11, .inl (cI, 162, .inl g10)), (h14, .inl (cZ, 2, .inl g13)), (h16, .inl (cI, 1000, .inl g15)), (h17, .inl (cI, 1000, .inl g16)), (h20, .inl (cI, 70, .inl f_10)), (h21, .inl (cI, 81, .inl g20))]) hP hD [0, 1, 2, 4, 5, 6, 7, 8, 9] [3] rfl rfl (by decide) (by decide) hk1 hFc hP1 hD1
    generalize H1 = H at hP hS ⊢
    replace hP : va_P (dC, dI) vwCl [(h10, .inl (cI, 18, .inl g9)), (h0, .inr (9, [.ref h1, .ref h2, .int a0, .int a1, .int a2, .int a3, .int a4, .int a5, .int a6, .int a7, .long y0, .ref h3, .ref h4, .ref h5, .ref h6, .ref h7, .ref h8, .ref h9, .ref h10, .ref h11, .ref h12, .ref h13, .ref h14, .ref h15, .ref h16, .ref h17, .ref h18, .ref h19, .ref h20, .int a8, .int a9, .int a10, .int a11, .int a12, .ref h21, .ref h22, .ref h23, .int a13, .int a14, .int a15, .int a16, .int a17, .ref h24, .ref h25, .ref h26, .ref h27, .int a18, .int a19, .int a20, .int a21, .int a22, .int a23, .int a24, .ref h28, .ref h29, .ref h30, .int a25, .ref h31, .ref h32, .ref h33, .ref h34, .ref h35, .ref h36, .ref h37, .int a26, .int a27, .ref h38, .ref h39, .ref h40, .ref h41, .ref h42, .ref h43])), (h7, .inl (cI, 2, .inl g6)), (h8, .inl (cI, 18, .inl g7)), (h11, .inl (cI, 162, .inl g10)), (h14, .inl (cZ, 2, .inl g13)), (h16, .inl (cI, 1000, .inl g15)), (h17, .inl (cI, 1000, .inl g16)), (h20, .inl (cI, 70, .inl f_10)), (h21, .inl (cI, 81, .inl g20))] H := hP
    replace hD : va_D A [(h10, .inl (cI, 18, .inl g9)), (h0, .inr (9, [.ref h1, .ref h2, .int a0, .int a1, .int a2, .int a3, .int a4, .int a5, .int a6, .int a7, .long y0, .ref h3, .ref h4, .ref h5, .ref h6, .ref h7, .ref h8, .ref h9, .ref h10, .ref h11, .ref h12, .ref h13, .ref h14, .ref h15, .ref h16, .ref h17, .ref h18, .ref h19, .ref h20, .int a8, .int a9, .int a10, .int a11, .int a12, .ref h21, .ref h22, .ref h23, .int a13, .int a14, .int a15, .int a16, .int a17, .ref h24, .ref h25, .ref h26, .ref h27, .int a18, .int a19, .int a20, .int a21, .int a22, .int a23, .int a24, .ref h28, .ref h29, .ref h30, .int a25, .ref h31, .ref h32, .ref h33, .ref h34, .ref h35, .ref h36, .ref h37, .int a26, .int a27, .ref h38, .ref h39, .ref h40, .ref h41, .ref h42, .ref h43])), (h7, .inl (cI, 2, .inl g6)), (h8, .inl (cI, 18, .inl g7)), (h11, .inl (cI, 162, .inl g10)), (h14, .inl (cZ, 2, .inl g13)), (h16, .inl (cI, 1000, .inl g15)), (h17, .inl (cI, 1000, .inl g16)), (h20, .inl (cI, 70, .inl f_10)), (h21, .inl (cI, 81, .inl g20))] := hD
    refine lv_if_eq (tgt := 34) hx hb dX9_areLet_27 (by decide) (fun c_11 => ?_) (fun c_11 => ?_)
    · skip
      have h_12 : rg (0) (0) r_9 := by have ha := (rg_any r_9); have hb_ := (rg_k (x := 0) (c := 0) (by decide)); simp only [rg, fa_lt, fa_le, fa_eq, (by decide : (0 : Int32).toInt = 0)] at ha hb_ c_11; simp only [rg]; omega
      refine lv_iconst (v := 0) hx hb dX9_areLet_34 (by decide) ?_
      have hP9 := hP.sub (ws' := [(h0, .inr (9, [.ref h1, .ref h2, .int a0, .int a1, .int a2, .int a3, .int a4, .int a5, .int a6, .int a7, .long y0, .ref h3, .ref h4, .ref h5, .ref h6, .ref h7, .ref h8, .ref h9, .ref h10, .ref h11, .ref h12, .ref h13, .ref h14, .ref h15, .ref h16, .ref h17, .ref h18, .ref h19, .ref h20, .int a8, .int a9, .int a10, .int a11, .int a12, .ref h21, .ref h22, .ref h23, .int a13, .int a14, .int a15, .int a16, .int a17, .ref h24, .ref h25, .ref h26, .ref h27, .int a18, .int a19, .int a20, .int a21, .int a22, .int a23, .int a24, .ref h28, .ref h29, .ref h30, .int a25, .ref h31, .ref h32, .ref h33, .ref h34, .ref h35, .ref h36, .ref h37, .int a26, .int a27, .ref h38, .ref h39, .ref h40, .ref h41, .ref h42, .ref h43])), (h7, .inl (cI, 2, .inl g6)), (h8, .inl (cI, 18, .inl g7)), (h10, .inl (cI, 18, .inl g9)), (h11, .inl (cI, 162, .inl g10)), (h14, .inl (cZ, 2, .inl g13)), (h16, .inl (cI, 1000, .inl g15)), (h17, .inl (cI, 1000, .inl g16)), (h20, .inl (cI, 70, .inl f_10)), (h21, .inl (cI, 81, .inl g20))]) [1, 2, 3, 0, 4, 5, 6, 7, 8, 9] rfl
      have hD9 := hD.sub (ws' := [(h0, .inr (9, [.ref h1, .ref h2, .int a0, .int a1, .int a2, .int a3, .int a4, .int a5, .int a6, .int a7, .long y0, .ref h3, .ref h4, .ref h5, .ref h6, .ref h7, .ref h8, .ref h9, .ref h10, .ref h11, .ref h12, .ref h13, .ref h14, .ref h15, .ref h16, .ref h17, .ref h18, .ref h19, .ref h20, .int a8, .int a9, .int a10, .int a11, .int a12, .ref h21, .ref h22, .ref h23, .int a13, .int a14, .int a15, .int a16, .int a17, .ref h24, .ref h25, .ref h26, .ref h27, .int a18, .int a19, .int a20, .int a21, .int a22, .int a23, .int a24, .ref h28, .ref h29, .ref h30, .int a25, .ref h31, .ref h32, .ref h33, .ref h34, .ref h35, .ref h36, .ref h37, .int a26, .int a27, .ref h38, .ref h39, .ref h40, .ref h41, .ref h42, .ref h43])), (h7, .inl (cI, 2, .inl g6)), (h8, .inl (cI, 18, .inl g7)), (h10, .inl (cI, 18, .inl g9)), (h11, .inl (cI, 162, .inl g10)), (h14, .inl (cZ, 2, .inl g13)), (h16, .inl (cI, 1000, .inl g15)), (h17, .inl (cI, 1000, .inl g16)), (h20, .inl (cI, 70, .inl f_10)), (h21, .inl (cI, 81, .inl g20))]) [1, 2, 3, 0, 4, 5, 6, 7, 8, 9] (by decide) rfl
      exact W.zret (v := 0) hx hb hr (rfl) (fun t ht hW => ⟨⟨0, (), rfl, (rg_mono (rg_k (x := 0) (c := 0) (by decide)) (by decide) (by decide)), ⟨f_10, by rw [ht]; exact hP9, hD9⟩⟩, hS.F ht⟩) hS.2.2 dX9_areLet_35
    · skip
      refine lv_iconst (v := 1) hx hb dX9_areLet_30 (by decide) ?_
      refine lv_goto (tgt := 35) hx hb dX9_areLet_31 (by decide) ?_
      have hP9 := hP.sub (ws' := [(h0, .inr (9, [.ref h1, .ref h2, .int a0, .int a1, .int a2, .int a3, .int a4, .int a5, .int a6, .int a7, .long y0, .ref h3, .ref h4, .ref h5, .ref h6, .ref h7, .ref h8, .ref h9, .ref h10, .ref h11, .ref h12, .ref h13, .ref h14, .ref h15, .ref h16, .ref h17, .ref h18, .ref h19, .ref h20, .int a8, .int a9, .int a10, .int a11, .int a12, .ref h21, .ref h22, .ref h23, .int a13, .int a14, .int a15, .int a16, .int a17, .ref h24, .ref h25, .ref h26, .ref h27, .int a18, .int a19, .int a20, .int a21, .int a22, .int a23, .int a24, .ref h28, .ref h29, .ref h30, .int a25, .ref h31, .ref h32, .ref h33, .ref h34, .ref h35, .ref h36, .ref h37, .int a26, .int a27, .ref h38, .ref h39, .ref h40, .ref h41, .ref h42, .ref h43])), (h7, .inl (cI, 2, .inl g6)), (h8, .inl (cI, 18, .inl g7)), (h10, .inl (cI, 18, .inl g9)), (h11, .inl (cI, 162, .inl g10)), (h14, .inl (cZ, 2, .inl g13)), (h16, .inl (cI, 1000, .inl g15)), (h17, .inl (cI, 1000, .inl g16)), (h20, .inl (cI, 70, .inl f_10)), (h21, .inl (cI, 81, .inl g20))]) [1, 2, 3, 0, 4, 5, 6, 7, 8, 9] rfl
      have hD9 := hD.sub (ws' := [(h0, .inr (9, [.ref h1, .ref h2, .int a0, .int a1, .int a2, .int a3, .int a4, .int a5, .int a6, .int a7, .long y0, .ref h3, .ref h4, .ref h5, .ref h6, .ref h7, .ref h8, .ref h9, .ref h10, .ref h11, .ref h12, .ref h13, .ref h14, .ref h15, .ref h16, .ref h17, .ref h18, .ref h19, .ref h20, .int a8, .int a9, .int a10, .int a11, .int a12, .ref h21, .ref h22, .ref h23, .int a13, .int a14, .int a15, .int a16, .int a17, .ref h24, .ref h25, .ref h26, .ref h27, .int a18, .int a19, .int a20, .int a21, .int a22, .int a23, .int a24, .ref h28, .ref h29, .ref h30, .int a25, .ref h31, .ref h32, .ref h33, .ref h34, .ref h35, .ref h36, .ref h37, .int a26, .int a27, .ref h38, .ref h39, .ref h40, .ref h41, .ref h42, .ref h43])), (h7, .inl (cI, 2, .inl g6)), (h8, .inl (cI, 18, .inl g7)), (h10, .inl (cI, 18, .inl g9)), (h11, .inl (cI, 162, .inl g10)), (h14, .inl (cZ, 2, .inl g13)), (h16, .inl (cI, 1000, .inl g15)), (h17, .inl (cI, 1000, .inl g16)), (h20, .inl (cI, 70, .inl f_10)), (h21, .inl (cI, 81, .inl g20))]) [1, 2, 3, 0, 4, 5, 6, 7, 8, 9] (by decide) rfl
      exact W.zret (v := 1) hx hb hr (rfl) (fun t ht hW => ⟨⟨1, (), rfl, (rg_mono (rg_k (x := 1) (c := 1) (by decide)) (by decide) (by decide)), ⟨f_10, by rw [ht]; exact hP9, hD9⟩⟩, hS.F ht⟩) hS.2.2 dX9_areLet_35
