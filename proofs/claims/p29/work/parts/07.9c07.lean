def v_s_X9_feed : List Cond := Cond.code yX9_feed cX9_feed 8 (some .int) :: ([Cond.fieldLink RX9 245 "MayRingsModel" "taped" "I", Cond.fieldLink RX9 7 "MayRingsModel" "tape" "[B"] ++ (wsX90 ++ ([])))
theorem k_s_X9_feed : GoodIn lw_tbl v_s_X9_feed := gd_c (List.mem_of_getElem? (i := 1865) (by decide +kernel)) rfl (goodIn_app (gd_c (List.mem_of_getElem? (i := 1237) (by decide +kernel)) rfl (gd_c (List.mem_of_getElem? (i := 1235) (by decide +kernel)) rfl (gd_nil))) (goodIn_app kfX9 (gd_nil)))
set_option maxHeartbeats 2000000 in
set_option maxRecDepth 100000 in
theorem c_s_X9_feed (l : Launch) (dC : Nat → ClassId) (dI : Nat → Nat → Nat) (cB cI cJ cZ cP : ClassId) (h0 : Nat) (h1 : Nat) (g0 : Nat → Int32) (h2 : Nat) (a0 : Int32) (ha0 : rg (0) (1600) a0) (a1 : Int32) (a2 : Int32) (a3 : Int32) (a4 : Int32) (a5 : Int32) (a6 : Int32) (a7 : Int32) (y0 : Int64) (h3 : Nat) (h4 : Nat) (h5 : Nat) (h6 : Nat) (h7 : Nat) (h8 : Nat) (h9 : Nat) (h10 : Nat) (h11 : Nat) (h12 : Nat) (h13 : Nat) (h14 : Nat) (h15 : Nat) (h16 : Nat) (h17 : Nat) (h18 : Nat) (h19 : Nat) (h20 : Nat) (a8 : Int32) (a9 : Int32) (a10 : Int32) (a11 : Int32) (a12 : Int32) (h21 : Nat) (h22 : Nat) (h23 : Nat) (a13 : Int32) (a14 : Int32) (a15 : Int32) (a16 : Int32) (a17 : Int32) (h24 : Nat) (h25 : Nat) (h26 : Nat) (h27 : Nat) (a18 : Int32) (a19 : Int32) (a20 : Int32) (a21 : Int32) (a22 : Int32) (a23 : Int32) (a24 : Int32) (h28 : Nat) (h29 : Nat) (h30 : Nat) (a25 : Int32) (h31 : Nat) (h32 : Nat) (h33 : Nat) (h34 : Nat) (h35 : Nat) (h36 : Nat) (h37 : Nat) (a26 : Int32) (a27 : Int32) (h38 : Nat) (h39 : Nat) (h40 : Nat) (h41 : Nat) (h42 : Nat) (h43 : Nat) (p0 : Int32) (p1 : Int32) (p2 : Int32) (p3 : Int32) (p4 : Int32) (sz : Nat) : Met l yX9_feed v_s_X9_feed ({ frames := 0, cells := 0, slots := 0, locals := 0 }) (va_Pc [.ref h0, .int p0, .int p1, .int p2, .int p3, .int p4] (fun U => U.heap.size = sz ∧ va_P (dC, dI) vwCl [(h0, .inr (9, [.ref h1, .ref h2, .int a0, .int a1, .int a2, .int a3, .int a4, .int a5, .int a6, .int a7, .long y0, .ref h3, .ref h4, .ref h5, .ref h6, .ref h7, .ref h8, .ref h9, .ref h10, .ref h11, .ref h12, .ref h13, .ref h14, .ref h15, .ref h16, .ref h17, .ref h18, .ref h19, .ref h20, .int a8, .int a9, .int a10, .int a11, .int a12, .ref h21, .ref h22, .ref h23, .int a13, .int a14, .int a15, .int a16, .int a17, .ref h24, .ref h25, .ref h26, .ref h27, .int a18, .int a19, .int a20, .int a21, .int a22, .int a23, .int a24, .ref h28, .ref h29, .ref h30, .int a25, .ref h31, .ref h32, .ref h33, .ref h34, .ref h35, .ref h36, .ref h37, .int a26, .int a27, .ref h38, .ref h39, .ref h40, .ref h41, .ref h42, .ref h43])), (h1, .inl (cB, 1620, .inl g0))] U.heap ∧ va_K (dC, dI) vwCl (ty5 cB cI cJ cZ cP) U ∧ va_D (fun _ => True) [(h0, .inr (9, [.ref h1, .ref h2, .int a0, .int a1, .int a2, .int a3, .int a4, .int a5, .int a6, .int a7, .long y0, .ref h3, .ref h4, .ref h5, .ref h6, .ref h7, .ref h8, .ref h9, .ref h10, .ref h11, .ref h12, .ref h13, .ref h14, .ref h15, .ref h16, .ref h17, .ref h18, .ref h19, .ref h20, .int a8, .int a9, .int a10, .int a11, .int a12, .ref h21, .ref h22, .ref h23, .int a13, .int a14, .int a15, .int a16, .int a17, .ref h24, .ref h25, .ref h26, .ref h27, .int a18, .int a19, .int a20, .int a21, .int a22, .int a23, .int a24, .ref h28, .ref h29, .ref h30, .int a25, .ref h31, .ref h32, .ref h33, .ref h34, .ref h35, .ref h36, .ref h37, .int a26, .int a27, .ref h38, .ref h39, .ref h40, .ref h41, .ref h42, .ref h43])), (h1, .inl (cB, 1620, .inl g0))])) (va_Qi (fun (r : Int32) (u9 : Unit) => rg (-1) (1600) r) (fun u9 t => ∃ (z0 : Int32) (z1 : Nat → Int32), rg (0) (1600) z0 ∧ va_P (dC, dI) vwCl [(h0, .inr (9, [.ref h1, .ref h2, .int z0, .int a1, .int a2, .int a3, .int a4, .int a5, .int a6, .int a7, .long y0, .ref h3, .ref h4, .ref h5, .ref h6, .ref h7, .ref h8, .ref h9, .ref h10, .ref h11, .ref h12, .ref h13, .ref h14, .ref h15, .ref h16, .ref h17, .ref h18, .ref h19, .ref h20, .int a8, .int a9, .int a10, .int a11, .int a12, .ref h21, .ref h22, .ref h23, .int a13, .int a14, .int a15, .int a16, .int a17, .ref h24, .ref h25, .ref h26, .ref h27, .int a18, .int a19, .int a20, .int a21, .int a22, .int a23, .int a24, .ref h28, .ref h29, .ref h30, .int a25, .ref h31, .ref h32, .ref h33, .ref h34, .ref h35, .ref h36, .ref h37, .int a26, .int a27, .ref h38, .ref h39, .ref h40, .ref h41, .ref h42, .ref h43])), (h1, .inl (cB, 1620, .inl z1))] t.heap ∧ va_D (va_A [(h0, .inr (9, [.ref h1, .ref h2, .int a0, .int a1, .int a2, .int a3, .int a4, .int a5, .int a6, .int a7, .long y0, .ref h3, .ref h4, .ref h5, .ref h6, .ref h7, .ref h8, .ref h9, .ref h10, .ref h11, .ref h12, .ref h13, .ref h14, .ref h15, .ref h16, .ref h17, .ref h18, .ref h19, .ref h20, .int a8, .int a9, .int a10, .int a11, .int a12, .ref h21, .ref h22, .ref h23, .int a13, .int a14, .int a15, .int a16, .int a17, .ref h24, .ref h25, .ref h26, .ref h27, .int a18, .int a19, .int a20, .int a21, .int a22, .int a23, .int a24, .ref h28, .ref h29, .ref h30, .int a25, .ref h31, .ref h32, .ref h33, .ref h34, .ref h35, .ref h36, .ref h37, .int a26, .int a27, .ref h38, .ref h39, .ref h40, .ref h41, .ref h42, .ref h43])), (h1, .inl (cB, 1620, .inl g0))] sz) [(h0, .inr (9, [.ref h1, .ref h2, .int z0, .int a1, .int a2, .int a3, .int a4, .int a5, .int a6, .int a7, .long y0, .ref h3, .ref h4, .ref h5, .ref h6, .ref h7, .ref h8, .ref h9, .ref h10, .ref h11, .ref h12, .ref h13, .ref h14, .ref h15, .ref h16, .ref h17, .ref h18, .ref h19, .ref h20, .int a8, .int a9, .int a10, .int a11, .int a12, .ref h21, .ref h22, .ref h23, .int a13, .int a14, .int a15, .int a16, .int a17, .ref h24, .ref h25, .ref h26, .ref h27, .int a18, .int a19, .int a20, .int a21, .int a22, .int a23, .int a24, .ref h28, .ref h29, .ref h30, .int a25, .ref h31, .ref h32, .ref h33, .ref h34, .ref h35, .ref h36, .ref h37, .int a26, .int a27, .ref h38, .ref h39, .ref h40, .ref h41, .ref h42, .ref h43])), (h1, .inl (cB, 1620, .inl z1))]) (va_A [(h0, .inr (9, [.ref h1, .ref h2, .int a0, .int a1, .int a2, .int a3, .int a4, .int a5, .int a6, .int a7, .long y0, .ref h3, .ref h4, .ref h5, .ref h6, .ref h7, .ref h8, .ref h9, .ref h10, .ref h11, .ref h12, .ref h13, .ref h14, .ref h15, .ref h16, .ref h17, .ref h18, .ref h19, .ref h20, .int a8, .int a9, .int a10, .int a11, .int a12, .ref h21, .ref h22, .ref h23, .int a13, .int a14, .int a15, .int a16, .int a17, .ref h24, .ref h25, .ref h26, .ref h27, .int a18, .int a19, .int a20, .int a21, .int a22, .int a23, .int a24, .ref h28, .ref h29, .ref h30, .int a25, .ref h31, .ref h32, .ref h33, .ref h34, .ref h35, .ref h36, .ref h37, .int a26, .int a27, .ref h38, .ref h39, .ref h40, .ref h41, .ref h42, .ref h43])), (h1, .inl (cB, 1620, .inl g0))] sz)) 0 0 (va_A [(h0, .inr (9, [.ref h1, .ref h2, .int a0, .int a1, .int a2, .int a3, .int a4, .int a5, .int a6, .int a7, .long y0, .ref h3, .ref h4, .ref h5, .ref h6, .ref h7, .ref h8, .ref h9, .ref h10, .ref h11, .ref h12, .ref h13, .ref h14, .ref h15, .ref h16, .ref h17, .ref h18, .ref h19, .ref h20, .int a8, .int a9, .int a10, .int a11, .int a12, .ref h21, .ref h22, .ref h23, .int a13, .int a14, .int a15, .int a16, .int a17, .ref h24, .ref h25, .ref h26, .ref h27, .int a18, .int a19, .int a20, .int a21, .int a22, .int a23, .int a24, .ref h28, .ref h29, .ref h30, .int a25, .ref h31, .ref h32, .ref h33, .ref h34, .ref h35, .ref h36, .ref h37, .int a26, .int a27, .ref h38, .ref h39, .ref h40, .ref h41, .ref h42, .ref h43])), (h1, .inl (cB, 1620, .inl g0))] sz) := by
  refine Met.ofW (cc := cX9_feed) (maxL := 8) (ret := (some .int)) (by decide) rfl ?_
  intro p e s m args below meth c s₁ B hml hv
  obtain ⟨rfl, hsz, hP, hK, hD0⟩ := hv
  have hx := B.exec
  have hb := B.bytes
  have hr := B.returns
  have hts := atoms_spec (ws := v_s_X9_feed) B.pre
  have hown : s.vm.findClass RX9 = some m.cls := findClass_of_methodNamed B.named
  have hlocks := B.notSynchronized
  have hinX9 : ∀ w ∈ wsX90, w ∈ v_s_X9_feed := fun _ h => List.mem_cons_of_mem _ (List.mem_append_right _ (List.mem_append_left _ h))
  subst hsz
  have hD := hD0.self (sz := s.heap.size)
  generalize hAe : va_A [(h0, .inr (9, [.ref h1, .ref h2, .int a0, .int a1, .int a2, .int a3, .int a4, .int a5, .int a6, .int a7, .long y0, .ref h3, .ref h4, .ref h5, .ref h6, .ref h7, .ref h8, .ref h9, .ref h10, .ref h11, .ref h12, .ref h13, .ref h14, .ref h15, .ref h16, .ref h17, .ref h18, .ref h19, .ref h20, .int a8, .int a9, .int a10, .int a11, .int a12, .ref h21, .ref h22, .ref h23, .int a13, .int a14, .int a15, .int a16, .int a17, .ref h24, .ref h25, .ref h26, .ref h27, .int a18, .int a19, .int a20, .int a21, .int a22, .int a23, .int a24, .ref h28, .ref h29, .ref h30, .int a25, .ref h31, .ref h32, .ref h33, .ref h34, .ref h35, .ref h36, .ref h37, .int a26, .int a27, .ref h38, .ref h39, .ref h40, .ref h41, .ref h42, .ref h43])), (h1, .inl (cB, 1620, .inl g0))] s.heap.size = A at hD ⊢
  have hA : ∀ q : Nat, s.heap.size ≤ q → A q := fun q h => by rw [← hAe]; exact Or.inr h
  have hP : va_P (dC, dI) vwCl [(h0, .inr (9, [.ref h1, .ref h2, .int a0, .int a1, .int a2, .int a3, .int a4, .int a5, .int a6, .int a7, .long y0, .ref h3, .ref h4, .ref h5, .ref h6, .ref h7, .ref h8, .ref h9, .ref h10, .ref h11, .ref h12, .ref h13, .ref h14, .ref h15, .ref h16, .ref h17, .ref h18, .ref h19, .ref h20, .int a8, .int a9, .int a10, .int a11, .int a12, .ref h21, .ref h22, .ref h23, .int a13, .int a14, .int a15, .int a16, .int a17, .ref h24, .ref h25, .ref h26, .ref h27, .int a18, .int a19, .int a20, .int a21, .int a22, .int a23, .int a24, .ref h28, .ref h29, .ref h30, .int a25, .ref h31, .ref h32, .ref h33, .ref h34, .ref h35, .ref h36, .ref h37, .int a26, .int a27, .ref h38, .ref h39, .ref h40, .ref h41, .ref h42, .ref h43])), (h1, .inl (cB, 1620, .inl g0))] s.heap := hP
  have hl := lv_entry ([.ref h0, .int p0, .int p1, .int p2, .int p3, .int p4]) (n := 8) (Nat.le_of_ble_eq_true rfl)
  rw [lg_entry_eq]
  generalize (lg_sl ([.ref h0, .int p0, .int p1, .int p2, .int p3, .int p4]) ++ List.replicate (8 - (lg_sl ([.ref h0, .int p0, .int p1, .int p2, .int p3, .int p4])).length) Slot.unset).toArray = ls at hl ⊢
  have hl : lv_has ls 8 [(0, .ref h0), (1, .int p0), (2, .int p1), (3, .int p2), (4, .int p3), (5, .int p4)] := hl
  refine W_gen (A := A) hP (fun H locs hP hS => ?_)
  refine lv_aload_n hx hb dX9_feed_0 rfl (lv_at hl 0 rfl) ?_
  refine va_get (D := (dC, dI)) (ci := 9) (v := .int a0) (C := RX9) (T := TX9) (N := 72) hx hb hts hinX9 hown hK hP 0 rfl rfl 2 (by decide) (hts (.fieldLink RX9 245 "MayRingsModel" "taped" "I") (List.mem_of_getElem? (i := 1) rfl)) (fun _ h9 => h9) rfl dX9_feed_1 ?_
  refine lv_bipush (v := 20) hx hb dX9_feed_4 (by decide) ?_
  refine lv_iadd hx hb dX9_feed_6 ?_
  refine lv_topi (fun x_1 ex_1 => ?_)
  have hx_1 : rg (20) (1620) x_1 := by rw [ex_1]; exact rg_mono (rg_add ha0 (rg_k (x := 20) (c := 20) (by decide)) (by decide) (by decide)) (by decide) (by decide)
  have qx_1 : x_1.toInt = a0.toInt + (20) := by rw [ex_1]; exact rg_addE ha0 (rg_k (x := 20) (c := 20) (by decide)) (by decide) (by decide) trivial
  refine lv_sipush (v := 1600) hx hb dX9_feed_7 (by decide) ?_
  refine lv_icmp_le (tgt := 15) hx hb dX9_feed_10 (by decide) (fun c_2 => ?_) (fun c_2 => ?_)
  · skip
    have h_3 : rg (20) (1600) x_1 := by have ha := hx_1; have hb_ := (rg_k (x := 1600) (c := 1600) (by decide)); simp only [rg, fa_lt, fa_le, fa_eq, (by decide : (1600 : Int32).toInt = 1600)] at ha hb_ c_2; simp only [rg]; omega
    have h_4 : rg (0) (1580) a0 := by have ha := h_3; have hb_ := ha0; simp only [rg] at ha hb_ ⊢; omega
    refine lv_iconst (v := 0) hx hb dX9_feed_15 (by decide) ?_
    refine lv_istore (lv' := [(6, .int 0), (0, .ref h0), (1, .int p0), (2, .int p1), (3, .int p2), (4, .int p3), (5, .int p4)]) hx hb dX9_feed_16 hl (by decide) rfl (fun ls hl => ?_)
    refine W_loopM (σ := (Nat → Int32) × Int32) (fun u H locs ls => va_P (dC, dI) vwCl [(h0, .inr (9, [.ref h1, .ref h2, .int a0, .int a1, .int a2, .int a3, .int a4, .int a5, .int a6, .int a7, .long y0, .ref h3, .ref h4, .ref h5, .ref h6, .ref h7, .ref h8, .ref h9, .ref h10, .ref h11, .ref h12, .ref h13, .ref h14, .ref h15, .ref h16, .ref h17, .ref h18, .ref h19, .ref h20, .int a8, .int a9, .int a10, .int a11, .int a12, .ref h21, .ref h22, .ref h23, .int a13, .int a14, .int a15, .int a16, .int a17, .ref h24, .ref h25, .ref h26, .ref h27, .int a18, .int a19, .int a20, .int a21, .int a22, .int a23, .int a24, .ref h28, .ref h29, .ref h30, .int a25, .ref h31, .ref h32, .ref h33, .ref h34, .ref h35, .ref h36, .ref h37, .int a26, .int a27, .ref h38, .ref h39, .ref h40, .ref h41, .ref h42, .ref h43])), (h1, .inl (cB, 1620, .inl u.1))] H ∧ va_D A [(h0, .inr (9, [.ref h1, .ref h2, .int a0, .int a1, .int a2, .int a3, .int a4, .int a5, .int a6, .int a7, .long y0, .ref h3, .ref h4, .ref h5, .ref h6, .ref h7, .ref h8, .ref h9, .ref h10, .ref h11, .ref h12, .ref h13, .ref h14, .ref h15, .ref h16, .ref h17, .ref h18, .ref h19, .ref h20, .int a8, .int a9, .int a10, .int a11, .int a12, .ref h21, .ref h22, .ref h23, .int a13, .int a14, .int a15, .int a16, .int a17, .ref h24, .ref h25, .ref h26, .ref h27, .int a18, .int a19, .int a20, .int a21, .int a22, .int a23, .int a24, .ref h28, .ref h29, .ref h30, .int a25, .ref h31, .ref h32, .ref h33, .ref h34, .ref h35, .ref h36, .ref h37, .int a26, .int a27, .ref h38, .ref h39, .ref h40, .ref h41, .ref h42, .ref h43])), (h1, .inl (cB, 1620, .inl u.1))] ∧ va_S A s.heap H locs ∧ lv_has ls 8 [(6, .int u.2), (0, .ref h0), (1, .int p0), (2, .int p1), (3, .int p2), (4, .int p3), (5, .int p4)] ∧ rg (0) (20) u.2) (fun u => ((20) - u.2.toInt).toNat) 18 [] ?_ (g0, 0) H locs ls ⟨hP, hD, hS, hl, (rg_mono (rg_k (x := 0) (c := 0) (by decide)) (by decide) (by decide))⟩
    rintro ⟨f_439, x_440⟩ H locs ls ⟨hP, hD, hS, hl, hx_440⟩ ih_496
    replace hP : va_P (dC, dI) vwCl [(h0, .inr (9, [.ref h1, .ref h2, .int a0, .int a1, .int a2, .int a3, .int a4, .int a5, .int a6, .int a7, .long y0, .ref h3, .ref h4, .ref h5, .ref h6, .ref h7, .ref h8, .ref h9, .ref h10, .ref h11, .ref h12, .ref h13, .ref h14, .ref h15, .ref h16, .ref h17, .ref h18, .ref h19, .ref h20, .int a8, .int a9, .int a10, .int a11, .int a12, .ref h21, .ref h22, .ref h23, .int a13, .int a14, .int a15, .int a16, .int a17, .ref h24, .ref h25, .ref h26, .ref h27, .int a18, .int a19, .int a20, .int a21, .int a22, .int a23, .int a24, .ref h28, .ref h29, .ref h30, .int a25, .ref h31, .ref h32, .ref h33, .ref h34, .ref h35, .ref h36, .ref h37, .int a26, .int a27, .ref h38, .ref h39, .ref h40, .ref h41, .ref h42, .ref h43])), (h1, .inl (cB, 1620, .inl f_439))] H := hP
    replace hD : va_D A [(h0, .inr (9, [.ref h1, .ref h2, .int a0, .int a1, .int a2, .int a3, .int a4, .int a5, .int a6, .int a7, .long y0, .ref h3, .ref h4, .ref h5, .ref h6, .ref h7, .ref h8, .ref h9, .ref h10, .ref h11, .ref h12, .ref h13, .ref h14, .ref h15, .ref h16, .ref h17, .ref h18, .ref h19, .ref h20, .int a8, .int a9, .int a10, .int a11, .int a12, .ref h21, .ref h22, .ref h23, .int a13, .int a14, .int a15, .int a16, .int a17, .ref h24, .ref h25, .ref h26, .ref h27, .int a18, .int a19, .int a20, .int a21, .int a22, .int a23, .int a24, .ref h28, .ref h29, .ref h30, .int a25, .ref h31, .ref h32, .ref h33, .ref h34, .ref h35, .ref h36, .ref h37, .int a26, .int a27, .ref h38, .ref h39, .ref h40, .ref h41, .ref h42, .ref h43])), (h1, .inl (cB, 1620, .inl f_439))] := hD
    replace hl : lv_has ls 8 [(6, .int x_440), (0, .ref h0), (1, .int p0), (2, .int p1), (3, .int p2), (4, .int p3), (5, .int p4)] := hl
    replace hx_440 : rg (0) (20) x_440 := hx_440
    refine lv_iload hx hb dX9_feed_18 (lv_at hl 0 rfl) ?_
    refine lv_bipush (v := 20) hx hb dX9_feed_20 (by decide) ?_
    refine lv_icmp_ge (tgt := 105) hx hb dX9_feed_22 (by decide) (fun c_497 => ?_) (fun c_497 => ?_)
    · skip
      have h_498 : rg (20) (20) x_440 := by have ha := hx_440; have hb_ := (rg_k (x := 20) (c := 20) (by decide)); simp only [rg, fa_lt, fa_le, fa_eq, (by decide : (20 : Int32).toInt = 20)] at ha hb_ c_497; simp only [rg]; omega
      refine lv_aload_n hx hb dX9_feed_105 rfl (lv_at hl 1 rfl) ?_
      refine lv_dup hx hb dX9_feed_106 rfl ?_
      refine va_get (D := (dC, dI)) (ci := 9) (v := .int a0) (C := RX9) (T := TX9) (N := 72) hx hb hts hinX9 hown hK hP 0 rfl rfl 2 (by decide) (hts (.fieldLink RX9 245 "MayRingsModel" "taped" "I") (List.mem_of_getElem? (i := 1) rfl)) (fun _ h9 => h9) rfl dX9_feed_107 ?_
      refine lv_bipush (v := 20) hx hb dX9_feed_110 (by decide) ?_
      refine lv_iadd hx hb dX9_feed_112 ?_
      refine tp_v (.int x_1) (congrArg Value.int (ex_1.symm)) ?_
      refine va_put (D := (dC, dI)) (ci := 9) (v := .int x_1) (ty := .int) (C := RX9) (T := TX9) (N := 72) hx hb hts hinX9 tyX9 tyX9_ok nmX9 hown hK hP hD hS 0 rfl rfl 2 (by decide) (hts (.fieldLink RX9 245 "MayRingsModel" "taped" "I") (List.mem_of_getElem? (i := 1) rfl)) (fun _ h9 => h9) rfl (by decide +kernel) (rfl) (rfl) (Nat.le_of_ble_eq_true rfl) dX9_feed_113 (fun H locs hP hD hS => ?_)
      replace hP : va_P (dC, dI) vwCl [(h0, .inr (9, [.ref h1, .ref h2, .int x_1, .int a1, .int a2, .int a3, .int a4, .int a5, .int a6, .int a7, .long y0, .ref h3, .ref h4, .ref h5, .ref h6, .ref h7, .ref h8, .ref h9, .ref h10, .ref h11, .ref h12, .ref h13, .ref h14, .ref h15, .ref h16, .ref h17, .ref h18, .ref h19, .ref h20, .int a8, .int a9, .int a10, .int a11, .int a12, .ref h21, .ref h22, .ref h23, .int a13, .int a14, .int a15, .int a16, .int a17, .ref h24, .ref h25, .ref h26, .ref h27, .int a18, .int a19, .int a20, .int a21, .int a22, .int a23, .int a24, .ref h28, .ref h29, .ref h30, .int a25, .ref h31, .ref h32, .ref h33, .ref h34, .ref h35, .ref h36, .ref h37, .int a26, .int a27, .ref h38, .ref h39, .ref h40, .ref h41, .ref h42, .ref h43])), (h1, .inl (cB, 1620, .inl f_439))] H := hP
      replace hD : va_D A [(h0, .inr (9, [.ref h1, .ref h2, .int x_1, .int a1, .int a2, .int a3, .int a4, .int a5, .int a6, .int a7, .long y0, .ref h3, .ref h4, .ref h5, .ref h6, .ref h7, .ref h8, .ref h9, .ref h10, .ref h11, .ref h12, .ref h13, .ref h14, .ref h15, .ref h16, .ref h17, .ref h18, .ref h19, .ref h20, .int a8, .int a9, .int a10, .int a11, .int a12, .ref h21, .ref h22, .ref h23, .int a13, .int a14, .int a15, .int a16, .int a17, .ref h24, .ref h25, .ref h26, .ref h27, .int a18, .int a19, .int a20, .int a21, .int a22, .int a23, .int a24, .ref h28, .ref h29, .ref h30, .int a25, .ref h31, .ref h32, .ref h33, .ref h34, .ref h35, .ref h36, .ref h37, .int a26, .int a27, .ref h38, .ref h39, .ref h40, .ref h41, .ref h42, .ref h43])), (h1, .inl (cB, 1620, .inl f_439))] := hD
      refine lv_aload_n hx hb dX9_feed_116 rfl (lv_at hl 1 rfl) ?_
      refine va_get (D := (dC, dI)) (ci := 9) (v := .int x_1) (C := RX9) (T := TX9) (N := 72) hx hb hts hinX9 hown hK hP 0 rfl rfl 2 (by decide) (hts (.fieldLink RX9 245 "MayRingsModel" "taped" "I") (List.mem_of_getElem? (i := 1) rfl)) (fun _ h9 => h9) rfl dX9_feed_117 ?_
      have hP9 := hP.sub (ws' := [(h0, .inr (9, [.ref h1, .ref h2, .int x_1, .int a1, .int a2, .int a3, .int a4, .int a5, .int a6, .int a7, .long y0, .ref h3, .ref h4, .ref h5, .ref h6, .ref h7, .ref h8, .ref h9, .ref h10, .ref h11, .ref h12, .ref h13, .ref h14, .ref h15, .ref h16, .ref h17, .ref h18, .ref h19, .ref h20, .int a8, .int a9, .int a10, .int a11, .int a12, .ref h21, .ref h22, .ref h23, .int a13, .int a14, .int a15, .int a16, .int a17, .ref h24, .ref h25, .ref h26, .ref h27, .int a18, .int a19, .int a20, .int a21, .int a22, .int a23, .int a24, .ref h28, .ref h29, .ref h30, .int a25, .ref h31, .ref h32, .ref h33, .ref h34, .ref h35, .ref h36, .ref h37, .int a26, .int a27, .ref h38, .ref h39, .ref h40, .ref h41, .ref h42, .ref h43])), (h1, .inl (cB, 1620, .inl f_439))]) [0, 1] rfl
      have hD9 := hD.sub (ws' := [(h0, .inr (9, [.ref h1, .ref h2, .int x_1, .int a1, .int a2, .int a3, .int a4, .int a5, .int a6, .int a7, .long y0, .ref h3, .ref h4, .ref h5, .ref h6, .ref h7, .ref h8, .ref h9, .ref h10, .ref h11, .ref h12, .ref h13, .ref h14, .ref h15, .ref h16, .ref h17, .ref h18, .ref h19, .ref h20, .int a8, .int a9, .int a10, .int a11, .int a12, .ref h21, .ref h22, .ref h23, .int a13, .int a14, .int a15, .int a16, .int a17, .ref h24, .ref h25, .ref h26, .ref h27, .int a18, .int a19, .int a20, .int a21, .int a22, .int a23, .int a24, .ref h28, .ref h29, .ref h30, .int a25, .ref h31, .ref h32, .ref h33, .ref h34, .ref h35, .ref h36, .ref h37, .int a26, .int a27, .ref h38, .ref h39, .ref h40, .ref h41, .ref h42, .ref h43])), (h1, .inl (cB, 1620, .inl f_439))]) [0, 1] (by decide) rfl
      exact W.iret (v := x_1) hx hb hr (fun t ht hW => ⟨⟨x_1, (), rfl, (rg_mono h_3 (by decide) (by decide)), ⟨x_1, f_439, (rg_mono h_3 (by decide) (by decide)), by rw [ht]; exact hP9, hD9⟩⟩, hS.F ht⟩) hS.2.2 dX9_feed_120
    · skip
      have h_499 : rg (0) (19) x_440 := by have ha := hx_440; have hb_ := (rg_k (x := 20) (c := 20) (by decide)); simp only [rg, fa_lt, fa_le, fa_eq, (by decide : (20 : Int32).toInt = 20)] at ha hb_ c_497; simp only [rg]; omega
      refine lv_iload hx hb dX9_feed_25 (lv_at hl 0 rfl) ?_
      refine lv_iconst (v := 4) hx hb dX9_feed_27 (by decide) ?_
      refine lv_icmp_ge (tgt := 35) hx hb dX9_feed_28 (by decide) (fun c_500 => ?_) (fun c_500 => ?_)
      · skip
        have h_501 : rg (4) (19) x_440 := by have ha := h_499; have hb_ := (rg_k (x := 4) (c := 4) (by decide)); simp only [rg, fa_lt, fa_le, fa_eq, (by decide : (4 : Int32).toInt = 4)] at ha hb_ c_500; simp only [rg]; omega
        refine lv_iload hx hb dX9_feed_35 (lv_at hl 0 rfl) ?_
        refine lv_bipush (v := 8) hx hb dX9_feed_37 (by decide) ?_
        refine lv_icmp_ge (tgt := 46) hx hb dX9_feed_39 (by decide) (fun c_502 => ?_) (fun c_502 => ?_)
        · skip
          have h_503 : rg (8) (19) x_440 := by have ha := h_501; have hb_ := (rg_k (x := 8) (c := 8) (by decide)); simp only [rg, fa_lt, fa_le, fa_eq, (by decide : (8 : Int32).toInt = 8)] at ha hb_ c_502; simp only [rg]; omega
          refine lv_iload hx hb dX9_feed_46 (lv_at hl 0 rfl) ?_
          refine lv_bipush (v := 12) hx hb dX9_feed_48 (by decide) ?_
          refine lv_icmp_ge (tgt := 57) hx hb dX9_feed_50 (by decide) (fun c_504 => ?_) (fun c_504 => ?_)
          · skip
            have h_505 : rg (12) (19) x_440 := by have ha := h_503; have hb_ := (rg_k (x := 12) (c := 12) (by decide)); simp only [rg, fa_lt, fa_le, fa_eq, (by decide : (12 : Int32).toInt = 12)] at ha hb_ c_504; simp only [rg]; omega
            refine lv_iload hx hb dX9_feed_57 (lv_at hl 0 rfl) ?_
            refine lv_bipush (v := 16) hx hb dX9_feed_59 (by decide) ?_
            refine lv_icmp_ge (tgt := 69) hx hb dX9_feed_61 (by decide) (fun c_506 => ?_) (fun c_506 => ?_)
            · skip
              have h_507 : rg (16) (19) x_440 := by have ha := h_505; have hb_ := (rg_k (x := 16) (c := 16) (by decide)); simp only [rg, fa_lt, fa_le, fa_eq, (by decide : (16 : Int32).toInt = 16)] at ha hb_ c_506; simp only [rg]; omega
              refine lv_iload hx hb dX9_feed_69 (lv_at hl 6 rfl) ?_
              refine lv_istore (lv' := [(7, .int p4), (6, .int x_440), (0, .ref h0), (1, .int p0), (2, .int p1), (3, .int p2), (4, .int p3), (5, .int p4)]) hx hb dX9_feed_71 hl (by decide) rfl (fun ls hl => ?_)
              refine lv_aload_n hx hb dX9_feed_73 rfl (lv_at hl 2 rfl) ?_
              refine va_get (D := (dC, dI)) (ci := 9) (v := .ref h1) (C := RX9) (T := TX9) (N := 72) hx hb hts hinX9 hown hK hP 0 rfl rfl 0 (by decide) (hts (.fieldLink RX9 7 "MayRingsModel" "tape" "[B") (List.mem_of_getElem? (i := 2) rfl)) (fun _ h9 => h9) rfl dX9_feed_74 ?_
              refine lv_aload_n hx hb dX9_feed_77 rfl (lv_at hl 2 rfl) ?_
              refine va_get (D := (dC, dI)) (ci := 9) (v := .int a0) (C := RX9) (T := TX9) (N := 72) hx hb hts hinX9 hown hK hP 0 rfl rfl 2 (by decide) (hts (.fieldLink RX9 245 "MayRingsModel" "taped" "I") (List.mem_of_getElem? (i := 1) rfl)) (fun _ h9 => h9) rfl dX9_feed_78 ?_
              refine lv_iload hx hb dX9_feed_81 (lv_at hl 1 rfl) ?_
              refine lv_iadd hx hb dX9_feed_83 ?_
              refine lv_topi (fun x_508 ex_508 => ?_)
              have hx_508 : rg (16) (1599) x_508 := by rw [ex_508]; exact rg_mono (rg_add h_4 h_507 (by decide) (by decide)) (by decide) (by decide)
              have qx_508 : x_508.toInt = a0.toInt + x_440.toInt := by rw [ex_508]; exact rg_addQ h_4 h_507 (by decide) (by decide)
              refine lv_iload hx hb dX9_feed_84 (lv_at hl 0 rfl) ?_
              refine lv_bipush (v := 24) hx hb dX9_feed_86 (by decide) ?_
              refine lv_bipush (v := 8) hx hb dX9_feed_88 (by decide) ?_
              refine lv_iload hx hb dX9_feed_90 (lv_at hl 1 rfl) ?_
              refine lv_iconst (v := 3) hx hb dX9_feed_92 (by decide) ?_
              refine lv_iand hx hb dX9_feed_93 ?_
              refine lv_topi (fun x_509 ex_509 => ?_)
              have hx_509 : rg (0) (3) x_509 := by rw [ex_509]; exact rg_mono (rg_andr (b := 3) (rg_mono (rg_k (x := 3) (c := 3) (by decide)) (by decide) (by decide))) (by decide) (by decide)
              refine lv_imul hx hb dX9_feed_94 ?_
              refine lv_topi (fun x_510 ex_510 => ?_)
              have hx_510 : rg (0) (24) x_510 := by rw [ex_510]; exact rg_mono (rg_mul (rg_k (x := 8) (c := 8) (by decide)) hx_509 (by decide) (by decide) (by decide)) (by decide) (by decide)
              refine lv_isub hx hb dX9_feed_95 ?_
              refine lv_topi (fun x_511 ex_511 => ?_)
              have hx_511 : rg (0) (24) x_511 := by rw [ex_511]; exact rg_mono (rg_sub (rg_k (x := 24) (c := 24) (by decide)) hx_510 (by decide) (by decide)) (by decide) (by decide)
              refine lv_ishr hx hb dX9_feed_96 ?_
              refine lv_topi (fun x_512 ex_512 => ?_)
              refine lv_i2b hx hb dX9_feed_97 rfl ?_
              refine lv_topi (fun x_513 ex_513 => ?_)
              clear ex_513
              refine va_bast hx hb hK hP hD hS 1 0 rfl rfl (rg_in (n := 1620) (rg_mono hx_508 (by decide) (by decide))) dX9_feed_98 (fun H locs hP hD hS => ?_)
              obtain ⟨f_514, ef_514⟩ : ∃ f : Nat → Int32, f = upd f_439 (x_508 : Int32).toNatClampNeg (vp_nar .byte x_513) := ⟨_, rfl⟩
              rw [← ef_514] at hP hD
              clear ef_514
              replace hP : va_P (dC, dI) vwCl [(h0, .inr (9, [.ref h1, .ref h2, .int a0, .int a1, .int a2, .int a3, .int a4, .int a5, .int a6, .int a7, .long y0, .ref h3, .ref h4, .ref h5, .ref h6, .ref h7, .ref h8, .ref h9, .ref h10, .ref h11, .ref h12, .ref h13, .ref h14, .ref h15, .ref h16, .ref h17, .ref h18, .ref h19, .ref h20, .int a8, .int a9, .int a10, .int a11, .int a12, .ref h21, .ref h22, .ref h23, .int a13, .int a14, .int a15, .int a16, .int a17, .ref h24, .ref h25, .ref h26, .ref h27, .int a18, .int a19, .int a20, .int a21, .int a22, .int a23, .int a24, .ref h28, .ref h29, .ref h30, .int a25, .ref h31, .ref h32, .ref h33, .ref h34, .ref h35, .ref h36, .ref h37, .int a26, .int a27, .ref h38, .ref h39, .ref h40, .ref h41, .ref h42, .ref h43])), (h1, .inl (cB, 1620, .inl f_514))] H := hP
              replace hD : va_D A [(h0, .inr (9, [.ref h1, .ref h2, .int a0, .int a1, .int a2, .int a3, .int a4, .int a5, .int a6, .int a7, .long y0, .ref h3, .ref h4, .ref h5, .ref h6, .ref h7, .ref h8, .ref h9, .ref h10, .ref h11, .ref h12, .ref h13, .ref h14, .ref h15, .ref h16, .ref h17, .ref h18, .ref h19, .ref h20, .int a8, .int a9, .int a10, .int a11, .int a12, .ref h21, .ref h22, .ref h23, .int a13, .int a14, .int a15, .int a16, .int a17, .ref h24, .ref h25, .ref h26, .ref h27, .int a18, .int a19, .int a20, .int a21, .int a22, .int a23, .int a24, .ref h28, .ref h29, .ref h30, .int a25, .ref h31, .ref h32, .ref h33, .ref h34, .ref h35, .ref h36, .ref h37, .int a26, .int a27, .ref h38, .ref h39, .ref h40, .ref h41, .ref h42, .ref h43])), (h1, .inl (cB, 1620, .inl f_514))] := hD
              obtain ⟨x_515, ex_515⟩ : ∃ y : Int32, y = x_440 + Int32.ofInt (1) := ⟨_, rfl⟩
              have hx_515 : rg (17) (20) x_515 := by rw [ex_515]; exact rg_mono (rg_add h_507 (rg_k (x := Int32.ofInt (1)) (c := 1) (by decide)) (by decide) (by decide)) (by decide) (by decide)
              have qx_515 : x_515.toInt = x_440.toInt + (1) := by rw [ex_515]; exact rg_addE h_507 (rg_k (x := Int32.ofInt (1)) (c := 1) (by decide)) (by decide) (by decide) (by decide)
              refine lv_iinc (v := x_515) (lv' := [(6, .int x_515), (7, .int p4), (0, .ref h0), (1, .int p0), (2, .int p1), (3, .int p2), (4, .int p3), (5, .int p4)]) hx hb dX9_feed_99 hl (k := 1) rfl (ex_515.symm) (by decide) rfl (fun ls hl => ?_)
              clear ex_515
              refine lv_goto (tgt := 18) hx hb dX9_feed_102 (by decide) ?_
              exact ih_496 (f_514, x_515) H locs ls ⟨hP.sub (ws' := [(h0, .inr (9, [.ref h1, .ref h2, .int a0, .int a1, .int a2, .int a3, .int a4, .int a5, .int a6, .int a7, .long y0, .ref h3, .ref h4, .ref h5, .ref h6, .ref h7, .ref h8, .ref h9, .ref h10, .ref h11, .ref h12, .ref h13, .ref h14, .ref h15, .ref h16, .ref h17, .ref h18, .ref h19, .ref h20, .int a8, .int a9, .int a10, .int a11, .int a12, .ref h21, .ref h22, .ref h23, .int a13, .int a14, .int a15, .int a16, .int a17, .ref h24, .ref h25, .ref h26, .ref h27, .int a18, .int a19, .int a20, .int a21, .int a22, .int a23, .int a24, .ref h28, .ref h29, .ref h30, .int a25, .ref h31, .ref h32, .ref h33, .ref h34, .ref h35, .ref h36, .ref h37, .int a26, .int a27, .ref h38, .ref h39, .ref h40, .ref h41, .ref h42, .ref h43])), (h1, .inl (cB, 1620, .inl f_514))]) [0, 1] rfl, hD.sub (ws' := [(h0, .inr (9, [.ref h1, .ref h2, .int a0, .int a1, .int a2, .int a3, .int a4, .int a5, .int a6, .int a7, .long y0, .ref h3, .ref h4, .ref h5, .ref h6, .ref h7, .ref h8, .ref h9, .ref h10, .ref h11, .ref h12, .ref h13, .ref h14, .ref h15, .ref h16, .ref h17, .ref h18, .ref h19, .ref h20, .int a8, .int a9, .int a10, .int a11, .int a12, .ref h21, .ref h22, .ref h23, .int a13, .int a14, .int a15, .int a16, .int a17, .ref h24, .ref h25, .ref h26, .ref h27, .int a18, .int a19, .int a20, .int a21, .int a22, .int a23, .int a24, .ref h28, .ref h29, .ref h30, .int a25, .ref h31, .ref h32, .ref h33, .ref h34, .ref h35, .ref h36, .ref h37, .int a26, .int a27, .ref h38, .ref h39, .ref h40, .ref h41, .ref h42, .ref h43])), (h1, .inl (cB, 1620, .inl f_514))]) [0, 1] (by decide) rfl, hS, lv_sub hl [0, 2, 3, 4, 5, 6, 7] rfl, (rg_mono hx_515 (by decide) (by decide))⟩ (by show ((20) - x_515.toInt).toNat < ((20) - x_440.toInt).toNat; have ha := h_507; simp only [rg] at ha; omega)
            · skip
              have h_516 : rg (12) (15) x_440 := by have ha := h_505; have hb_ := (rg_k (x := 16) (c := 16) (by decide)); simp only [rg, fa_lt, fa_le, fa_eq, (by decide : (16 : Int32).toInt = 16)] at ha hb_ c_506; simp only [rg]; omega
              refine lv_iload hx hb dX9_feed_64 (lv_at hl 5 rfl) ?_
              refine lv_goto (tgt := 71) hx hb dX9_feed_66 (by decide) ?_
              refine lv_istore (lv' := [(7, .int p3), (6, .int x_440), (0, .ref h0), (1, .int p0), (2, .int p1), (3, .int p2), (4, .int p3), (5, .int p4)]) hx hb dX9_feed_71 hl (by decide) rfl (fun ls hl => ?_)
              refine lv_aload_n hx hb dX9_feed_73 rfl (lv_at hl 2 rfl) ?_
              refine va_get (D := (dC, dI)) (ci := 9) (v := .ref h1) (C := RX9) (T := TX9) (N := 72) hx hb hts hinX9 hown hK hP 0 rfl rfl 0 (by decide) (hts (.fieldLink RX9 7 "MayRingsModel" "tape" "[B") (List.mem_of_getElem? (i := 2) rfl)) (fun _ h9 => h9) rfl dX9_feed_74 ?_
              refine lv_aload_n hx hb dX9_feed_77 rfl (lv_at hl 2 rfl) ?_
              refine va_get (D := (dC, dI)) (ci := 9) (v := .int a0) (C := RX9) (T := TX9) (N := 72) hx hb hts hinX9 hown hK hP 0 rfl rfl 2 (by decide) (hts (.fieldLink RX9 245 "MayRingsModel" "taped" "I") (List.mem_of_getElem? (i := 1) rfl)) (fun _ h9 => h9) rfl dX9_feed_78 ?_
              refine lv_iload hx hb dX9_feed_81 (lv_at hl 1 rfl) ?_
              refine lv_iadd hx hb dX9_feed_83 ?_
              refine lv_topi (fun x_517 ex_517 => ?_)
              have hx_517 : rg (12) (1595) x_517 := by rw [ex_517]; exact rg_mono (rg_add h_4 h_516 (by decide) (by decide)) (by decide) (by decide)
              have qx_517 : x_517.toInt = a0.toInt + x_440.toInt := by rw [ex_517]; exact rg_addQ h_4 h_516 (by decide) (by decide)
              refine lv_iload hx hb dX9_feed_84 (lv_at hl 0 rfl) ?_
              refine lv_bipush (v := 24) hx hb dX9_feed_86 (by decide) ?_
              refine lv_bipush (v := 8) hx hb dX9_feed_88 (by decide) ?_
              refine lv_iload hx hb dX9_feed_90 (lv_at hl 1 rfl) ?_
              refine lv_iconst (v := 3) hx hb dX9_feed_92 (by decide) ?_
              refine lv_iand hx hb dX9_feed_93 ?_
              refine lv_topi (fun x_518 ex_518 => ?_)
              have hx_518 : rg (0) (3) x_518 := by rw [ex_518]; exact rg_mono (rg_andr (b := 3) (rg_mono (rg_k (x := 3) (c := 3) (by decide)) (by decide) (by decide))) (by decide) (by decide)
              refine lv_imul hx hb dX9_feed_94 ?_
              refine lv_topi (fun x_519 ex_519 => ?_)
              have hx_519 : rg (0) (24) x_519 := by rw [ex_519]; exact rg_mono (rg_mul (rg_k (x := 8) (c := 8) (by decide)) hx_518 (by decide) (by decide) (by decide)) (by decide) (by decide)
              refine lv_isub hx hb dX9_feed_95 ?_
              refine lv_topi (fun x_520 ex_520 => ?_)
              have hx_520 : rg (0) (24) x_520 := by rw [ex_520]; exact rg_mono (rg_sub (rg_k (x := 24) (c := 24) (by decide)) hx_519 (by decide) (by decide)) (by decide) (by decide)
              refine lv_ishr hx hb dX9_feed_96 ?_
              refine lv_topi (fun x_521 ex_521 => ?_)
              refine lv_i2b hx hb dX9_feed_97 rfl ?_
              refine lv_topi (fun x_522 ex_522 => ?_)
              clear ex_522
              refine va_bast hx hb hK hP hD hS 1 0 rfl rfl (rg_in (n := 1620) (rg_mono hx_517 (by decide) (by decide))) dX9_feed_98 (fun H locs hP hD hS => ?_)
              obtain ⟨f_523, ef_523⟩ : ∃ f : Nat → Int32, f = upd f_439 (x_517 : Int32).toNatClampNeg (vp_nar .byte x_522) := ⟨_, rfl⟩
              rw [← ef_523] at hP hD
              clear ef_523
              replace hP : va_P (dC, dI) vwCl [(h0, .inr (9, [.ref h1, .ref h2, .int a0, .int a1, .int a2, .int a3, .int a4, .int a5, .int a6, .int a7, .long y0, .ref h3, .ref h4, .ref h5, .ref h6, .ref h7, .ref h8, .ref h9, .ref h10, .ref h11, .ref h12, .ref h13, .ref h14, .ref h15, .ref h16, .ref h17, .ref h18, .ref h19, .ref h20, .int a8, .int a9, .int a10, .int a11, .int a12, .ref h21, .ref h22, .ref h23, .int a13, .int a14, .int a15, .int a16, .int a17, .ref h24, .ref h25, .ref h26, .ref h27, .int a18, .int a19, .int a20, .int a21, .int a22, .int a23, .int a24, .ref h28, .ref h29, .ref h30, .int a25, .ref h31, .ref h32, .ref h33, .ref h34, .ref h35, .ref h36, .ref h37, .int a26, .int a27, .ref h38, .ref h39, .ref h40, .ref h41, .ref h42, .ref h43])), (h1, .inl (cB, 1620, .inl f_523))] H := hP
              replace hD : va_D A [(h0, .inr (9, [.ref h1, .ref h2, .int a0, .int a1, .int a2, .int a3, .int a4, .int a5, .int a6, .int a7, .long y0, .ref h3, .ref h4, .ref h5, .ref h6, .ref h7, .ref h8, .ref h9, .ref h10, .ref h11, .ref h12, .ref h13, .ref h14, .ref h15, .ref h16, .ref h17, .ref h18, .ref h19, .ref h20, .int a8, .int a9, .int a10, .int a11, .int a12, .ref h21, .ref h22, .ref h23, .int a13, .int a14, .int a15, .int a16, .int a17, .ref h24, .ref h25, .ref h26, .ref h27, .int a18, .int a19, .int a20, .int a21, .int a22, .int a23, .int a24, .ref h28, .ref h29, .ref h30, .int a25, .ref h31, .ref h32, .ref h33, .ref h34, .ref h35, .ref h36, .ref h37, .int a26, .int a27, .ref h38, .ref h39, .ref h40, .ref h41, .ref h42, .ref h43])), (h1, .inl (cB, 1620, .inl f_523))] := hD
              obtain ⟨x_524, ex_524⟩ : ∃ y : Int32, y = x_440 + Int32.ofInt (1) := ⟨_, rfl⟩
              have hx_524 : rg (13) (16) x_524 := by rw [ex_524]; exact rg_mono (rg_add h_516 (rg_k (x := Int32.ofInt (1)) (c := 1) (by decide)) (by decide) (by decide)) (by decide) (by decide)
              have qx_524 : x_524.toInt = x_440.toInt + (1) := by rw [ex_524]; exact rg_addE h_516 (rg_k (x := Int32.ofInt (1)) (c := 1) (by decide)) (by decide) (by decide) (by decide)
              refine lv_iinc (v := x_524) (lv' := [(6, .int x_524), (7, .int p3), (0, .ref h0), (1, .int p0), (2, .int p1), (3, .int p2), (4, .int p3), (5, .int p4)]) hx hb dX9_feed_99 hl (k := 1) rfl (ex_524.symm) (by decide) rfl (fun ls hl => ?_)
              clear ex_524
              refine lv_goto (tgt := 18) hx hb dX9_feed_102 (by decide) ?_
              exact ih_496 (f_523, x_524) H locs ls ⟨hP.sub (ws' := [(h0, .inr (9, [.ref h1, .ref h2, .int a0, .int a1, .int a2, .int a3, .int a4, .int a5, .int a6, .int a7, .long y0, .ref h3, .ref h4, .ref h5, .ref h6, .ref h7, .ref h8, .ref h9, .ref h10, .ref h11, .ref h12, .ref h13, .ref h14, .ref h15, .ref h16, .ref h17, .ref h18, .ref h19, .ref h20, .int a8, .int a9, .int a10, .int a11, .int a12, .ref h21, .ref h22, .ref h23, .int a13, .int a14, .int a15, .int a16, .int a17, .ref h24, .ref h25, .ref h26, .ref h27, .int a18, .int a19, .int a20, .int a21, .int a22, .int a23, .int a24, .ref h28, .ref h29, .ref h30, .int a25, .ref h31, .ref h32, .ref h33, .ref h34, .ref h35, .ref h36, .ref h37, .int a26, .int a27, .ref h38, .ref h39, .ref h40, .ref h41, .ref h42, .ref h43])), (h1, .inl (cB, 1620, .inl f_523))]) [0, 1] rfl, hD.sub (ws' := [(h0, .inr (9, [.ref h1, .ref h2, .int a0, .int a1, .int a2, .int a3, .int a4, .int a5, .int a6, .int a7, .long y0, .ref h3, .ref h4, .ref h5, .ref h6, .ref h7, .ref h8, .ref h9, .ref h10, .ref h11, .ref h12, .ref h13, .ref h14, .ref h15, .ref h16, .ref h17, .ref h18, .ref h19, .ref h20, .int a8, .int a9, .int a10, .int a11, .int a12, .ref h21, .ref h22, .ref h23, .int a13, .int a14, .int a15, .int a16, .int a17, .ref h24, .ref h25, .ref h26, .ref h27, .int a18, .int a19, .int a20, .int a21, .int a22, .int a23, .int a24, .ref h28, .ref h29, .ref h30, .int a25, .ref h31, .ref h32, .ref h33, .ref h34, .ref h35, .ref h36, .ref h37, .int a26, .int a27, .ref h38, .ref h39, .ref h40, .ref h41, .ref h42, .ref h43])), (h1, .inl (cB, 1620, .inl f_523))]) [0, 1] (by decide) rfl, hS, lv_sub hl [0, 2, 3, 4, 5, 6, 7] rfl, (rg_mono hx_524 (by decide) (by decide))⟩ (by show ((20) - x_524.toInt).toNat < ((20) - x_440.toInt).toNat; have ha := h_516; simp only [rg] at ha; omega)
          · skip
            have h_525 : rg (8) (11) x_440 := by have ha := h_503; have hb_ := (rg_k (x := 12) (c := 12) (by decide)); simp only [rg, fa_lt, fa_le, fa_eq, (by decide : (12 : Int32).toInt = 12)] at ha hb_ c_504; simp only [rg]; omega
            refine lv_iload_n hx hb dX9_feed_53 rfl (lv_at hl 4 rfl) ?_
            refine lv_goto (tgt := 71) hx hb dX9_feed_54 (by decide) ?_
            refine lv_istore (lv' := [(7, .int p2), (6, .int x_440), (0, .ref h0), (1, .int p0), (2, .int p1), (3, .int p2), (4, .int p3), (5, .int p4)]) hx hb dX9_feed_71 hl (by decide) rfl (fun ls hl => ?_)
            refine lv_aload_n hx hb dX9_feed_73 rfl (lv_at hl 2 rfl) ?_
            refine va_get (D := (dC, dI)) (ci := 9) (v := .ref h1) (C := RX9) (T := TX9) (N := 72) hx hb hts hinX9 hown hK hP 0 rfl rfl 0 (by decide) (hts (.fieldLink RX9 7 "MayRingsModel" "tape" "[B") (List.mem_of_getElem? (i := 2) rfl)) (fun _ h9 => h9) rfl dX9_feed_74 ?_
            refine lv_aload_n hx hb dX9_feed_77 rfl (lv_at hl 2 rfl) ?_
            refine va_get (D := (dC, dI)) (ci := 9) (v := .int a0) (C := RX9) (T := TX9) (N := 72) hx hb hts hinX9 hown hK hP 0 rfl rfl 2 (by decide) (hts (.fieldLink RX9 245 "MayRingsModel" "taped" "I") (List.mem_of_getElem? (i := 1) rfl)) (fun _ h9 => h9) rfl dX9_feed_78 ?_
            refine lv_iload hx hb dX9_feed_81 (lv_at hl 1 rfl) ?_
            refine lv_iadd hx hb dX9_feed_83 ?_
            refine lv_topi (fun x_526 ex_526 => ?_)
            have hx_526 : rg (8) (1591) x_526 := by rw [ex_526]; exact rg_mono (rg_add h_4 h_525 (by decide) (by decide)) (by decide) (by decide)
            have qx_526 : x_526.toInt = a0.toInt + x_440.toInt := by rw [ex_526]; exact rg_addQ h_4 h_525 (by decide) (by decide)
            refine lv_iload hx hb dX9_feed_84 (lv_at hl 0 rfl) ?_
            refine lv_bipush (v := 24) hx hb dX9_feed_86 (by decide) ?_
            refine lv_bipush (v := 8) hx hb dX9_feed_88 (by decide) ?_
            refine lv_iload hx hb dX9_feed_90 (lv_at hl 1 rfl) ?_
            refine lv_iconst (v := 3) hx hb dX9_feed_92 (by decide) ?_
            refine lv_iand hx hb dX9_feed_93 ?_
            refine lv_topi (fun x_527 ex_527 => ?_)
            have hx_527 : rg (0) (3) x_527 := by rw [ex_527]; exact rg_mono (rg_andr (b := 3) (rg_mono (rg_k (x := 3) (c := 3) (by decide)) (by decide) (by decide))) (by decide) (by decide)
            refine lv_imul hx hb dX9_feed_94 ?_
            refine lv_topi (fun x_528 ex_528 => ?_)
            have hx_528 : rg (0) (24) x_528 := by rw [ex_528]; exact rg_mono (rg_mul (rg_k (x := 8) (c := 8) (by decide)) hx_527 (by decide) (by decide) (by decide)) (by decide) (by decide)
            refine lv_isub hx hb dX9_feed_95 ?_
            refine lv_topi (fun x_529 ex_529 => ?_)
            have hx_529 : rg (0) (24) x_529 := by rw [ex_529]; exact rg_mono (rg_sub (rg_k (x := 24) (c := 24) (by decide)) hx_528 (by decide) (by decide)) (by decide) (by decide)
            refine lv_ishr hx hb dX9_feed_96 ?_
            refine lv_topi (fun x_530 ex_530 => ?_)
            refine lv_i2b hx hb dX9_feed_97 rfl ?_
            refine lv_topi (fun x_531 ex_531 => ?_)
            clear ex_531
            refine va_bast hx hb hK hP hD hS 1 0 rfl rfl (rg_in (n := 1620) (rg_mono hx_526 (by decide) (by decide))) dX9_feed_98 (fun H locs hP hD hS => ?_)
            obtain ⟨f_532, ef_532⟩ : ∃ f : Nat → Int32, f = upd f_439 (x_526 : Int32).toNatClampNeg (vp_nar .byte x_531) := ⟨_, rfl⟩
            rw [← ef_532] at hP hD
            clear ef_532
            replace hP : va_P (dC, dI) vwCl [(h0, .inr (9, [.ref h1, .ref h2, .int a0, .int a1, .int a2, .int a3, .int a4, .int a5, .int a6, .int a7, .long y0, .ref h3, .ref h4, .ref h5, .ref h6, .ref h7, .ref h8, .ref h9, .ref h10, .ref h11, .ref h12, .ref h13, .ref h14, .ref h15, .ref h16, .ref h17, .ref h18, .ref h19, .ref h20, .int a8, .int a9, .int a10, .int a11, .int a12, .ref h21, .ref h22, .ref h23, .int a13, .int a14, .int a15, .int a16, .int a17, .ref h24, .ref h25, .ref h26, .ref h27, .int a18, .int a19, .int a20, .int a21, .int a22, .int a23, .int a24, .ref h28, .ref h29, .ref h30, .int a25, .ref h31, .ref h32, .ref h33, .ref h34, .ref h35, .ref h36, .ref h37, .int a26, .int a27, .ref h38, .ref h39, .ref h40, .ref h41, .ref h42, .ref h43])), (h1, .inl (cB, 1620, .inl f_532))] H := hP
            replace hD : va_D A [(h0, .inr (9, [.ref h1, .ref h2, .int a0, .int a1, .int a2, .int a3, .int a4, .int a5, .int a6, .int a7, .long y0, .ref h3, .ref h4, .ref h5, .ref h6, .ref h7, .ref h8, .ref h9, .ref h10, .ref h11, .ref h12, .ref h13, .ref h14, .ref h15, .ref h16, .ref h17, .ref h18, .ref h19, .ref h20, .int a8, .int a9, .int a10, .int a11, .int a12, .ref h21, .ref h22, .ref h23, .int a13, .int a14, .int a15, .int a16, .int a17, .ref h24, .ref h25, .ref h26, .ref h27, .int a18, .int a19, .int a20, .int a21, .int a22, .int a23, .int a24, .ref h28, .ref h29, .ref h30, .int a25, .ref h31, .ref h32, .ref h33, .ref h34, .ref h35, .ref h36, .ref h37, .int a26, .int a27, .ref h38, .ref h39, .ref h40, .ref h41, .ref h42, .ref h43])), (h1, .inl (cB, 1620, .inl f_532))] := hD
            obtain ⟨x_533, ex_533⟩ : ∃ y : Int32, y = x_440 + Int32.ofInt (1) := ⟨_, rfl⟩
            have hx_533 : rg (9) (12) x_533 := by rw [ex_533]; exact rg_mono (rg_add h_525 (rg_k (x := Int32.ofInt (1)) (c := 1) (by decide)) (by decide) (by decide)) (by decide) (by decide)
            have qx_533 : x_533.toInt = x_440.toInt + (1) := by rw [ex_533]; exact rg_addE h_525 (rg_k (x := Int32.ofInt (1)) (c := 1) (by decide)) (by decide) (by decide) (by decide)
            refine lv_iinc (v := x_533) (lv' := [(6, .int x_533), (7, .int p2), (0, .ref h0), (1, .int p0), (2, .int p1), (3, .int p2), (4, .int p3), (5, .int p4)]) hx hb dX9_feed_99 hl (k := 1) rfl (ex_533.symm) (by decide) rfl (fun ls hl => ?_)
            clear ex_533
            refine lv_goto (tgt := 18) hx hb dX9_feed_102 (by decide) ?_
            exact ih_496 (f_532, x_533) H locs ls ⟨hP.sub (ws' := [(h0, .inr (9, [.ref h1, .ref h2, .int a0, .int a1, .int a2, .int a3, .int a4, .int a5, .int a6, .int a7, .long y0, .ref h3, .ref h4, .ref h5, .ref h6, .ref h7, .ref h8, .ref h9, .ref h10, .ref h11, .ref h12, .ref h13, .ref h14, .ref h15, .ref h16, .ref h17, .ref h18, .ref h19, .ref h20, .int a8, .int a9, .int a10, .int a11, .int a12, .ref h21, .ref h22, .ref h23, .int a13, .int a14, .int a15, .int a16, .int a17, .ref h24, .ref h25, .ref h26, .ref h27, .int a18, .int a19, .int a20, .int a21, .int a22, .int a23, .int a24, .ref h28, .ref h29, .ref h30, .int a25, .ref h31, .ref h32, .ref h33, .ref h34, .ref h35, .ref h36, .ref h37, .int a26, .int a27, .ref h38, .ref h39, .ref h40, .ref h41, .ref h42, .ref h43])), (h1, .inl (cB, 1620, .inl f_532))]) [0, 1] rfl, hD.sub (ws' := [(h0, .inr (9, [.ref h1, .ref h2, .int a0, .int a1, .int a2, .int a3, .int a4, .int a5, .int a6, .int a7, .long y0, .ref h3, .ref h4, .ref h5, .ref h6, .ref h7, .ref h8, .ref h9, .ref h10, .ref h11, .ref h12, .ref h13, .ref h14, .ref h15, .ref h16, .ref h17, .ref h18, .ref h19, .ref h20, .int a8, .int a9, .int a10, .int a11, .int a12, .ref h21, .ref h22, .ref h23, .int a13, .int a14, .int a15, .int a16, .int a17, .ref h24, .ref h25, .ref h26, .ref h27, .int a18, .int a19, .int a20, .int a21, .int a22, .int a23, .int a24, .ref h28, .ref h29, .ref h30, .int a25, .ref h31, .ref h32, .ref h33, .ref h34, .ref h35, .ref h36, .ref h37, .int a26, .int a27, .ref h38, .ref h39, .ref h40, .ref h41, .ref h42, .ref h43])), (h1, .inl (cB, 1620, .inl f_532))]) [0, 1] (by decide) rfl, hS, lv_sub hl [0, 2, 3, 4, 5, 6, 7] rfl, (rg_mono hx_533 (by decide) (by decide))⟩ (by show ((20) - x_533.toInt).toNat < ((20) - x_440.toInt).toNat; have ha := h_525; simp only [rg] at ha; omega)
        · skip
          have h_534 : rg (4) (7) x_440 := by have ha := h_501; have hb_ := (rg_k (x := 8) (c := 8) (by decide)); simp only [rg, fa_lt, fa_le, fa_eq, (by decide : (8 : Int32).toInt = 8)] at ha hb_ c_502; simp only [rg]; omega
          refine lv_iload_n hx hb dX9_feed_42 rfl (lv_at hl 3 rfl) ?_
          refine lv_goto (tgt := 71) hx hb dX9_feed_43 (by decide) ?_
          refine lv_istore (lv' := [(7, .int p1), (6, .int x_440), (0, .ref h0), (1, .int p0), (2, .int p1), (3, .int p2), (4, .int p3), (5, .int p4)]) hx hb dX9_feed_71 hl (by decide) rfl (fun ls hl => ?_)
          refine lv_aload_n hx hb dX9_feed_73 rfl (lv_at hl 2 rfl) ?_
          refine va_get (D := (dC, dI)) (ci := 9) (v := .ref h1) (C := RX9) (T := TX9) (N := 72) hx hb hts hinX9 hown hK hP 0 rfl rfl 0 (by decide) (hts (.fieldLink RX9 7 "MayRingsModel" "tape" "[B") (List.mem_of_getElem? (i := 2) rfl)) (fun _ h9 => h9) rfl dX9_feed_74 ?_
          refine lv_aload_n hx hb dX9_feed_77 rfl (lv_at hl 2 rfl) ?_
          refine va_get (D := (dC, dI)) (ci := 9) (v := .int a0) (C := RX9) (T := TX9) (N := 72) hx hb hts hinX9 hown hK hP 0 rfl rfl 2 (by decide) (hts (.fieldLink RX9 245 "MayRingsModel" "taped" "I") (List.mem_of_getElem? (i := 1) rfl)) (fun _ h9 => h9) rfl dX9_feed_78 ?_
          refine lv_iload hx hb dX9_feed_81 (lv_at hl 1 rfl) ?_
          refine lv_iadd hx hb dX9_feed_83 ?_
          refine lv_topi (fun x_535 ex_535 => ?_)
          have hx_535 : rg (4) (1587) x_535 := by rw [ex_535]; exact rg_mono (rg_add h_4 h_534 (by decide) (by decide)) (by decide) (by decide)
          have qx_535 : x_535.toInt = a0.toInt + x_440.toInt := by rw [ex_535]; exact rg_addQ h_4 h_534 (by decide) (by decide)
          refine lv_iload hx hb dX9_feed_84 (lv_at hl 0 rfl) ?_
          refine lv_bipush (v := 24) hx hb dX9_feed_86 (by decide) ?_
          refine lv_bipush (v := 8) hx hb dX9_feed_88 (by decide) ?_
          refine lv_iload hx hb dX9_feed_90 (lv_at hl 1 rfl) ?_
          refine lv_iconst (v := 3) hx hb dX9_feed_92 (by decide) ?_
          refine lv_iand hx hb dX9_feed_93 ?_
          refine lv_topi (fun x_536 ex_536 => ?_)
          have hx_536 : rg (0) (3) x_536 := by rw [ex_536]; exact rg_mono (rg_andr (b := 3) (rg_mono (rg_k (x := 3) (c := 3) (by decide)) (by decide) (by decide))) (by decide) (by decide)
          refine lv_imul hx hb dX9_feed_94 ?_
          refine lv_topi (fun x_537 ex_537 => ?_)
          have hx_537 : rg (0) (24) x_537 := by rw [ex_537]; exact rg_mono (rg_mul (rg_k (x := 8) (c := 8) (by decide)) hx_536 (by decide) (by decide) (by decide)) (by decide) (by decide)
          refine lv_isub hx hb dX9_feed_95 ?_
          refine lv_topi (fun x_538 ex_538 => ?_)
          have hx_538 : rg (0) (24) x_538 := by rw [ex_538]; exact rg_mono (rg_sub (rg_k (x := 24) (c := 24) (by decide)) hx_537 (by decide) (by decide)) (by decide) (by decide)
          refine lv_ishr hx hb dX9_feed_96 ?_
          refine lv_topi (fun x_539 ex_539 => ?_)
          refine lv_i2b hx hb dX9_feed_97 rfl ?_
          refine lv_topi (fun x_540 ex_540 => ?_)
          clear ex_540
          refine va_bast hx hb hK hP hD hS 1 0 rfl rfl (rg_in (n := 1620) (rg_mono hx_535 (by decide) (by decide))) dX9_feed_98 (fun H locs hP hD hS => ?_)
          obtain ⟨f_541, ef_541⟩ : ∃ f : Nat → Int32, f = upd f_439 (x_535 : Int32).toNatClampNeg (vp_nar .byte x_540) := ⟨_, rfl⟩
          rw [← ef_541] at hP hD
          clear ef_541
          replace hP : va_P (dC, dI) vwCl [(h0, .inr (9, [.ref h1, .ref h2, .int a0, .int a1, .int a2, .int a3, .int a4, .int a5, .int a6, .int a7, .long y0, .ref h3, .ref h4, .ref h5, .ref h6, .ref h7, .ref h8, .ref h9, .ref h10, .ref h11, .ref h12, .ref h13, .ref h14, .ref h15, .ref h16, .ref h17, .ref h18, .ref h19, .ref h20, .int a8, .int a9, .int a10, .int a11, .int a12, .ref h21, .ref h22, .ref h23, .int a13, .int a14, .int a15, .int a16, .int a17, .ref h24, .ref h25, .ref h26, .ref h27, .int a18, .int a19, .int a20, .int a21, .int a22, .int a23, .int a24, .ref h28, .ref h29, .ref h30, .int a25, .ref h31, .ref h32, .ref h33, .ref h34, .ref h35, .ref h36, .ref h37, .int a26, .int a27, .ref h38, .ref h39, .ref h40, .ref h41, .ref h42, .ref h43])), (h1, .inl (cB, 1620, .inl f_541))] H := hP
          replace hD : va_D A [(h0, .inr (9, [.ref h1, .ref h2, .int a0, .int a1, .int a2, .int a3, .int a4, .int a5, .int a6, .int a7, .long y0, .ref h3, .ref h4, .ref h5, .ref h6, .ref h7, .ref h8, .ref h9, .ref h10, .ref h11, .ref h12, .ref h13, .ref h14, .ref h15, .ref h16, .ref h17, .ref h18, .ref h19, .ref h20, .int a8, .int a9, .int a10, .int a11, .int a12, .ref h21, .ref h22, .ref h23, .int a13, .int a14, .int a15, .int a16, .int a17, .ref h24, .ref h25, .ref h26, .ref h27, .int a18, .int a19, .int a20, .int a21, .int a22, .int a23, .int a24, .ref h28, .ref h29, .ref h30, .int a25, .ref h31, .ref h32, .ref h33, .ref h34, .ref h35, .ref h36, .ref h37, .int a26, .int a27, .ref h38, .ref h39, .ref h40, .ref h41, .ref h42, .ref h43])), (h1, .inl (cB, 1620, .inl f_541))] := hD
          obtain ⟨x_542, ex_542⟩ : ∃ y : Int32, y = x_440 + Int32.ofInt (1) := ⟨_, rfl⟩
          have hx_542 : rg (5) (8) x_542 := by rw [ex_542]; exact rg_mono (rg_add h_534 (rg_k (x := Int32.ofInt (1)) (c := 1) (by decide)) (by decide) (by decide)) (by decide) (by decide)
          have qx_542 : x_542.toInt = x_440.toInt + (1) := by rw [ex_542]; exact rg_addE h_534 (rg_k (x := Int32.ofInt (1)) (c := 1) (by decide)) (by decide) (by decide) (by decide)
          refine lv_iinc (v := x_542) (lv' := [(6, .int x_542), (7, .int p1), (0, .ref h0), (1, .int p0), (2, .int p1), (3, .int p2), (4, .int p3), (5, .int p4)]) hx hb dX9_feed_99 hl (k := 1) rfl (ex_542.symm) (by decide) rfl (fun ls hl => ?_)
          clear ex_542
          refine lv_goto (tgt := 18) hx hb dX9_feed_102 (by decide) ?_
          exact ih_496 (f_541, x_542) H locs ls ⟨hP.sub (ws' := [(h0, .inr (9, [.ref h1, .ref h2, .int a0, .int a1, .int a2, .int a3, .int a4, .int a5, .int a6, .int a7, .long y0, .ref h3, .ref h4, .ref h5, .ref h6, .ref h7, .ref h8, .ref h9, .ref h10, .ref h11, .ref h12, .ref h13, .ref h14, .ref h15, .ref h16, .ref h17, .ref h18, .ref h19, .ref h20, .int a8, .int a9, .int a10, .int a11, .int a12, .ref h21, .ref h22, .ref h23, .int a13, .int a14, .int a15, .int a16, .int a17, .ref h24, .ref h25, .ref h26, .ref h27, .int a18, .int a19, .int a20, .int a21, .int a22, .int a23, .int a24, .ref h28, .ref h29, .ref h30, .int a25, .ref h31, .ref h32, .ref h33, .ref h34, .ref h35, .ref h36, .ref h37, .int a26, .int a27, .ref h38, .ref h39, .ref h40, .ref h41, .ref h42, .ref h43])), (h1, .inl (cB, 1620, .inl f_541))]) [0, 1] rfl, hD.sub (ws' := [(h0, .inr (9, [.ref h1, .ref h2, .int a0, .int a1, .int a2, .int a3, .int a4, .int a5, .int a6, .int a7, .long y0, .ref h3, .ref h4, .ref h5, .ref h6, .ref h7, .ref h8, .ref h9, .ref h10, .ref h11, .ref h12, .ref h13, .ref h14, .ref h15, .ref h16, .ref h17, .ref h18, .ref h19, .ref h20, .int a8, .int a9, .int a10, .int a11, .int a12, .ref h21, .ref h22, .ref h23, .int a13, .int a14, .int a15, .int a16, .int a17, .ref h24, .ref h25, .ref h26, .ref h27, .int a18, .int a19, .int a20, .int a21, .int a22, .int a23, .int a24, .ref h28, .ref h29, .ref h30, .int a25, .ref h31, .ref h32, .ref h33, .ref h34, .ref h35, .ref h36, .ref h37, .int a26, .int a27, .ref h38, .ref h39, .ref h40, .ref h41, .ref h42, .ref h43])), (h1, .inl (cB, 1620, .inl f_541))]) [0, 1] (by decide) rfl, hS, lv_sub hl [0, 2, 3, 4, 5, 6, 7] rfl, (rg_mono hx_542 (by decide) (by decide))⟩ (by show ((20) - x_542.toInt).toNat < ((20) - x_440.toInt).toNat; have ha := h_534; simp only [rg] at ha; omega)
      · skip
        have h_543 : rg (0) (3) x_440 := by have ha := h_499; have hb_ := (rg_k (x := 4) (c := 4) (by decide)); simp only [rg, fa_lt, fa_le, fa_eq, (by decide : (4 : Int32).toInt = 4)] at ha hb_ c_500; simp only [rg]; omega
        refine lv_iload_n hx hb dX9_feed_31 rfl (lv_at hl 2 rfl) ?_
        refine lv_goto (tgt := 71) hx hb dX9_feed_32 (by decide) ?_
        refine lv_istore (lv' := [(7, .int p0), (6, .int x_440), (0, .ref h0), (1, .int p0), (2, .int p1), (3, .int p2), (4, .int p3), (5, .int p4)]) hx hb dX9_feed_71 hl (by decide) rfl (fun ls hl => ?_)
        refine lv_aload_n hx hb dX9_feed_73 rfl (lv_at hl 2 rfl) ?_
        refine va_get (D := (dC, dI)) (ci := 9) (v := .ref h1) (C := RX9) (T := TX9) (N := 72) hx hb hts hinX9 hown hK hP 0 rfl rfl 0 (by decide) (hts (.fieldLink RX9 7 "MayRingsModel" "tape" "[B") (List.mem_of_getElem? (i := 2) rfl)) (fun _ h9 => h9) rfl dX9_feed_74 ?_
        refine lv_aload_n hx hb dX9_feed_77 rfl (lv_at hl 2 rfl) ?_
        refine va_get (D := (dC, dI)) (ci := 9) (v := .int a0) (C := RX9) (T := TX9) (N := 72) hx hb hts hinX9 hown hK hP 0 rfl rfl 2 (by decide) (hts (.fieldLink RX9 245 "MayRingsModel" "taped" "I") (List.mem_of_getElem? (i := 1) rfl)) (fun _ h9 => h9) rfl dX9_feed_78 ?_
        refine lv_iload hx hb dX9_feed_81 (lv_at hl 1 rfl) ?_
        refine lv_iadd hx hb dX9_feed_83 ?_
        refine lv_topi (fun x_544 ex_544 => ?_)
        have hx_544 : rg (0) (1583) x_544 := by rw [ex_544]; exact rg_mono (rg_add h_4 h_543 (by decide) (by decide)) (by decide) (by decide)
        have qx_544 : x_544.toInt = a0.toInt + x_440.toInt := by rw [ex_544]; exact rg_addQ h_4 h_543 (by decide) (by decide)
        refine lv_iload hx hb dX9_feed_84 (lv_at hl 0 rfl) ?_
        refine lv_bipush (v := 24) hx hb dX9_feed_86 (by decide) ?_
        refine lv_bipush (v := 8) hx hb dX9_feed_88 (by decide) ?_
        refine lv_iload hx hb dX9_feed_90 (lv_at hl 1 rfl) ?_
        refine lv_iconst (v := 3) hx hb dX9_feed_92 (by decide) ?_
        refine lv_iand hx hb dX9_feed_93 ?_
        refine lv_topi (fun x_545 ex_545 => ?_)
        have hx_545 : rg (0) (3) x_545 := by rw [ex_545]; exact rg_mono (rg_andl (b := 3) (rg_mono h_543 (by decide) (by decide))) (by decide) (by decide)
        have kx_545_0 : rg 1 2147483647 x_545 → rg 1 (3) x_440 := fun hq => rg_andP h_543 (ex_545 ▸ hq)
        refine lv_imul hx hb dX9_feed_94 ?_
        refine lv_topi (fun x_546 ex_546 => ?_)
        have hx_546 : rg (0) (24) x_546 := by rw [ex_546]; exact rg_mono (rg_mul (rg_k (x := 8) (c := 8) (by decide)) hx_545 (by decide) (by decide) (by decide)) (by decide) (by decide)
        refine lv_isub hx hb dX9_feed_95 ?_
        refine lv_topi (fun x_547 ex_547 => ?_)
        have hx_547 : rg (0) (24) x_547 := by rw [ex_547]; exact rg_mono (rg_sub (rg_k (x := 24) (c := 24) (by decide)) hx_546 (by decide) (by decide)) (by decide) (by decide)
        refine lv_ishr hx hb dX9_feed_96 ?_
        refine lv_topi (fun x_548 ex_548 => ?_)
        refine lv_i2b hx hb dX9_feed_97 rfl ?_
        refine lv_topi (fun x_549 ex_549 => ?_)
        clear ex_549
        refine va_bast hx hb hK hP hD hS 1 0 rfl rfl (rg_in (n := 1620) (rg_mono hx_544 (by decide) (by decide))) dX9_feed_98 (fun H locs hP hD hS => ?_)
        obtain ⟨f_550, ef_550⟩ : ∃ f : Nat → Int32, f = upd f_439 (x_544 : Int32).toNatClampNeg (vp_nar .byte x_549) := ⟨_, rfl⟩
        rw [← ef_550] at hP hD
        clear ef_550
        replace hP : va_P (dC, dI) vwCl [(h0, .inr (9, [.ref h1, .ref h2, .int a0, .int a1, .int a2, .int a3, .int a4, .int a5, .int a6, .int a7, .long y0, .ref h3, .ref h4, .ref h5, .ref h6, .ref h7, .ref h8, .ref h9, .ref h10, .ref h11, .ref h12, .ref h13, .ref h14, .ref h15, .ref h16, .ref h17, .ref h18, .ref h19, .ref h20, .int a8, .int a9, .int a10, .int a11, .int a12, .ref h21, .ref h22, .ref h23, .int a13, .int a14, .int a15, .int a16, .int a17, .ref h24, .ref h25, .ref h26, .ref h27, .int a18, .int a19, .int a20, .int a21, .int a22, .int a23, .int a24, .ref h28, .ref h29, .ref h30, .int a25, .ref h31, .ref h32, .ref h33, .ref h34, .ref h35, .ref h36, .ref h37, .int a26, .int a27, .ref h38, .ref h39, .ref h40, .ref h41, .ref h42, .ref h43])), (h1, .inl (cB, 1620, .inl f_550))] H := hP
        replace hD : va_D A [(h0, .inr (9, [.ref h1, .ref h2, .int a0, .int a1, .int a2, .int a3, .int a4, .int a5, .int a6, .int a7, .long y0, .ref h3, .ref h4, .ref h5, .ref h6, .ref h7, .ref h8, .ref h9, .ref h10, .ref h11, .ref h12, .ref h13, .ref h14, .ref h15, .ref h16, .ref h17, .ref h18, .ref h19, .ref h20, .int a8, .int a9, .int a10, .int a11, .int a12, .ref h21, .ref h22, .ref h23, .int a13, .int a14, .int a15, .int a16, .int a17, .ref h24, .ref h25, .ref h26, .ref h27, .int a18, .int a19, .int a20, .int a21, .int a22, .int a23, .int a24, .ref h28, .ref h29, .ref h30, .int a25, .ref h31, .ref h32, .ref h33, .ref h34, .ref h35, .ref h36, .ref h37, .int a26, .int a27, .ref h38, .ref h39, .ref h40, .ref h41, .ref h42, .ref h43])), (h1, .inl (cB, 1620, .inl f_550))] := hD
        obtain ⟨x_551, ex_551⟩ : ∃ y : Int32, y = x_440 + Int32.ofInt (1) := ⟨_, rfl⟩
        have hx_551 : rg (1) (4) x_551 := by rw [ex_551]; exact rg_mono (rg_add h_543 (rg_k (x := Int32.ofInt (1)) (c := 1) (by decide)) (by decide) (by decide)) (by decide) (by decide)
        have qx_551 : x_551.toInt = x_440.toInt + (1) := by rw [ex_551]; exact rg_addE h_543 (rg_k (x := Int32.ofInt (1)) (c := 1) (by decide)) (by decide) (by decide) (by decide)
        refine lv_iinc (v := x_551) (lv' := [(6, .int x_551), (7, .int p0), (0, .ref h0), (1, .int p0), (2, .int p1), (3, .int p2), (4, .int p3), (5, .int p4)]) hx hb dX9_feed_99 hl (k := 1) rfl (ex_551.symm) (by decide) rfl (fun ls hl => ?_)
        clear ex_551
        refine lv_goto (tgt := 18) hx hb dX9_feed_102 (by decide) ?_
        exact ih_496 (f_550, x_551) H locs ls ⟨hP.sub (ws' := [(h0, .inr (9, [.ref h1, .ref h2, .int a0, .int a1, .int a2, .int a3, .int a4, .int a5, .int a6, .int a7, .long y0, .ref h3, .ref h4, .ref h5, .ref h6, .ref h7, .ref h8, .ref h9, .ref h10, .ref h11, .ref h12, .ref h13, .ref h14, .ref h15, .ref h16, .ref h17, .ref h18, .ref h19, .ref h20, .int a8, .int a9, .int a10, .int a11, .int a12, .ref h21, .ref h22, .ref h23, .int a13, .int a14, .int a15, .int a16, .int a17, .ref h24, .ref h25, .ref h26, .ref h27, .int a18, .int a19, .int a20, .int a21, .int a22, .int a23, .int a24, .ref h28, .ref h29, .ref h30, .int a25, .ref h31, .ref h32, .ref h33, .ref h34, .ref h35, .ref h36, .ref h37, .int a26, .int a27, .ref h38, .ref h39, .ref h40, .ref h41, .ref h42, .ref h43])), (h1, .inl (cB, 1620, .inl f_550))]) [0, 1] rfl, hD.sub (ws' := [(h0, .inr (9, [.ref h1, .ref h2, .int a0, .int a1, .int a2, .int a3, .int a4, .int a5, .int a6, .int a7, .long y0, .ref h3, .ref h4, .ref h5, .ref h6, .ref h7, .ref h8, .ref h9, .ref h10, .ref h11, .ref h12, .ref h13, .ref h14, .ref h15, .ref h16, .ref h17, .ref h18, .ref h19, .ref h20, .int a8, .int a9, .int a10, .int a11, .int a12, .ref h21, .ref h22, .ref h23, .int a13, .int a14, .int a15, .int a16, .int a17, .ref h24, .ref h25, .ref h26, .ref h27, .int a18, .int a19, .int a20, .int a21, .int a22, .int a23, .int a24, .ref h28, .ref h29, .ref h30, .int a25, .ref h31, .ref h32, .ref h33, .ref h34, .ref h35, .ref h36, .ref h37, .int a26, .int a27, .ref h38, .ref h39, .ref h40, .ref h41, .ref h42, .ref h43])), (h1, .inl (cB, 1620, .inl f_550))]) [0, 1] (by decide) rfl, hS, lv_sub hl [0, 2, 3, 4, 5, 6, 7] rfl, (rg_mono hx_551 (by decide) (by decide))⟩ (by show ((20) - x_551.toInt).toNat < ((20) - x_440.toInt).toNat; have ha := h_543; simp only [rg] at ha; omega)
  · skip
    have h_552 : rg (1601) (1620) x_1 := by have ha := hx_1; have hb_ := (rg_k (x := 1600) (c := 1600) (by decide)); simp only [rg, fa_lt, fa_le, fa_eq, (by decide : (1600 : Int32).toInt = 1600)] at ha hb_ c_2; simp only [rg]; omega
    have h_553 : rg (1581) (1600) a0 := by have ha := h_552; have hb_ := ha0; simp only [rg] at ha hb_ ⊢; omega
    refine lv_iconst (v := (-1)) hx hb dX9_feed_13 (by decide) ?_
    have hP9 := hP.sub (ws' := [(h0, .inr (9, [.ref h1, .ref h2, .int a0, .int a1, .int a2, .int a3, .int a4, .int a5, .int a6, .int a7, .long y0, .ref h3, .ref h4, .ref h5, .ref h6, .ref h7, .ref h8, .ref h9, .ref h10, .ref h11, .ref h12, .ref h13, .ref h14, .ref h15, .ref h16, .ref h17, .ref h18, .ref h19, .ref h20, .int a8, .int a9, .int a10, .int a11, .int a12, .ref h21, .ref h22, .ref h23, .int a13, .int a14, .int a15, .int a16, .int a17, .ref h24, .ref h25, .ref h26, .ref h27, .int a18, .int a19, .int a20, .int a21, .int a22, .int a23, .int a24, .ref h28, .ref h29, .ref h30, .int a25, .ref h31, .ref h32, .ref h33, .ref h34, .ref h35, .ref h36, .ref h37, .int a26, .int a27, .ref h38, .ref h39, .ref h40, .ref h41, .ref h42, .ref h43])), (h1, .inl (cB, 1620, .inl g0))]) [0, 1] rfl
    have hD9 := hD.sub (ws' := [(h0, .inr (9, [.ref h1, .ref h2, .int a0, .int a1, .int a2, .int a3, .int a4, .int a5, .int a6, .int a7, .long y0, .ref h3, .ref h4, .ref h5, .ref h6, .ref h7, .ref h8, .ref h9, .ref h10, .ref h11, .ref h12, .ref h13, .ref h14, .ref h15, .ref h16, .ref h17, .ref h18, .ref h19, .ref h20, .int a8, .int a9, .int a10, .int a11, .int a12, .ref h21, .ref h22, .ref h23, .int a13, .int a14, .int a15, .int a16, .int a17, .ref h24, .ref h25, .ref h26, .ref h27, .int a18, .int a19, .int a20, .int a21, .int a22, .int a23, .int a24, .ref h28, .ref h29, .ref h30, .int a25, .ref h31, .ref h32, .ref h33, .ref h34, .ref h35, .ref h36, .ref h37, .int a26, .int a27, .ref h38, .ref h39, .ref h40, .ref h41, .ref h42, .ref h43])), (h1, .inl (cB, 1620, .inl g0))]) [0, 1] (by decide) rfl
    exact W.iret (v := (-1)) hx hb hr (fun t ht hW => ⟨⟨(-1), (), rfl, (rg_mono (rg_k (x := (-1)) (c := -1) (by decide)) (by decide) (by decide)), ⟨a0, g0, (rg_mono h_553 (by decide) (by decide)), by rw [ht]; exact hP9, hD9⟩⟩, hS.F ht⟩) hS.2.2 dX9_feed_14
def v_s_X9_firstWrong : List Cond := Cond.code yX9_firstWrong cX9_firstWrong 3 (some .int) :: ([Cond.methodLink RX9 381 yX9_manyIn, Cond.instanceMethod yX9_manyIn, Cond.selects RX9 yX9_manyIn yX9_manyIn, Cond.initialized RX9, Cond.fieldLink RX9 89 "MayRingsModel" "row" "[I", Cond.methodLink RX9 399 yX9_bearsAt, Cond.instanceMethod yX9_bearsAt, Cond.selects RX9 yX9_bearsAt yX9_bearsAt, Cond.methodLink RX9 384 yX9_isRing, Cond.instanceMethod yX9_isRing, Cond.selects RX9 yX9_isRing yX9_isRing, Cond.methodLink RX9 402 yX9_isLet, Cond.instanceMethod yX9_isLet, Cond.selects RX9 yX9_isLet yX9_isLet] ++ (wsX90 ++ (v_s_X9_manyIn ++ (v_s_X9_bearsAt ++ (v_s_X9_isRing ++ (v_s_X9_isLet ++ ([])))))))
theorem k_s_X9_firstWrong : GoodIn lw_tbl v_s_X9_firstWrong := gd_c (List.mem_of_getElem? (i := 1675) (by decide +kernel)) rfl (goodIn_app (gd_c (List.mem_of_getElem? (i := 1649) (by decide +kernel)) rfl (gd_c (List.mem_of_getElem? (i := 1651) (by decide +kernel)) rfl (gd_c (List.mem_of_getElem? (i := 103) (by decide +kernel)) rfl (gd_c (List.mem_of_getElem? (i := 144) (by decide +kernel)) rfl (gd_c (List.mem_of_getElem? (i := 1277) (by decide +kernel)) rfl (gd_c (List.mem_of_getElem? (i := 1676) (by decide +kernel)) rfl (gd_c (List.mem_of_getElem? (i := 1678) (by decide +kernel)) rfl (gd_c (List.mem_of_getElem? (i := 109) (by decide +kernel)) rfl (gd_c (List.mem_of_getElem? (i := 1660) (by decide +kernel)) rfl (gd_c (List.mem_of_getElem? (i := 1662) (by decide +kernel)) rfl (gd_c (List.mem_of_getElem? (i := 105) (by decide +kernel)) rfl (gd_c (List.mem_of_getElem? (i := 1680) (by decide +kernel)) rfl (gd_c (List.mem_of_getElem? (i := 1682) (by decide +kernel)) rfl (gd_c (List.mem_of_getElem? (i := 110) (by decide +kernel)) rfl (gd_nil))))))))))))))) (goodIn_app kfX9 (goodIn_app k_s_X9_manyIn (goodIn_app k_s_X9_bearsAt (goodIn_app k_s_X9_isRing (goodIn_app k_s_X9_isLet (gd_nil)))))))
set_option maxHeartbeats 2000000 in
set_option maxRecDepth 100000 in
theorem c_s_X9_firstWrong (l : Launch) (dC : Nat → ClassId) (dI : Nat → Nat → Nat) (cB cI cJ cZ cP : ClassId) (h0 : Nat) (h1 : Nat) (h2 : Nat) (a0 : Int32) (a1 : Int32) (a2 : Int32) (a3 : Int32) (a4 : Int32) (a5 : Int32) (a6 : Int32) (a7 : Int32) (y0 : Int64) (h3 : Nat) (g2 : Nat → Int32) (hg2 : rgA (0) (9) g2) (h4 : Nat) (h5 : Nat) (h6 : Nat) (h7 : Nat) (h8 : Nat) (g7 : Nat → Int32) (h9 : Nat) (g8 : Nat → Int32) (h10 : Nat) (h11 : Nat) (h12 : Nat) (h13 : Nat) (g12 : Nat → Int32) (hg12 : rgA (0) (1) g12) (h14 : Nat) (h15 : Nat) (h16 : Nat) (h17 : Nat) (h18 : Nat) (h19 : Nat) (h20 : Nat) (a8 : Int32) (ha8 : rg (0) (1) a8) (a9 : Int32) (a10 : Int32) (a11 : Int32) (a12 : Int32) (h21 : Nat) (h22 : Nat) (h23 : Nat) (a13 : Int32) (a14 : Int32) (a15 : Int32) (a16 : Int32) (a17 : Int32) (h24 : Nat) (g23 : Nat → Int32) (hg23 : rgA (-1) (9) g23) (h25 : Nat) (g24 : Nat → Int32) (h26 : Nat) (h27 : Nat) (a18 : Int32) (a19 : Int32) (a20 : Int32) (a21 : Int32) (a22 : Int32) (a23 : Int32) (a24 : Int32) (h28 : Nat) (h29 : Nat) (h30 : Nat) (a25 : Int32) (h31 : Nat) (h32 : Nat) (h33 : Nat) (h34 : Nat) (h35 : Nat) (h36 : Nat) (h37 : Nat) (a26 : Int32) (a27 : Int32) (h38 : Nat) (h39 : Nat) (h40 : Nat) (h41 : Nat) (h42 : Nat) (h43 : Nat) (kr0 : r8 g23 (mnF g2 a8 a14)) (kr1 : ow g2 a8 a14) (sz : Nat) : Met l yX9_firstWrong v_s_X9_firstWrong ({ frames := 3, cells := 0, slots := 0, locals := 62 }) (va_Pc [.ref h0] (fun U => U.heap.size = sz ∧ va_P (dC, dI) vwCl [(h0, .inr (9, [.ref h1, .ref h2, .int a0, .int a1, .int a2, .int a3, .int a4, .int a5, .int a6, .int a7, .long y0, .ref h3, .ref h4, .ref h5, .ref h6, .ref h7, .ref h8, .ref h9, .ref h10, .ref h11, .ref h12, .ref h13, .ref h14, .ref h15, .ref h16, .ref h17, .ref h18, .ref h19, .ref h20, .int a8, .int a9, .int a10, .int a11, .int a12, .ref h21, .ref h22, .ref h23, .int a13, .int a14, .int a15, .int a16, .int a17, .ref h24, .ref h25, .ref h26, .ref h27, .int a18, .int a19, .int a20, .int a21, .int a22, .int a23, .int a24, .ref h28, .ref h29, .ref h30, .int a25, .ref h31, .ref h32, .ref h33, .ref h34, .ref h35, .ref h36, .ref h37, .int a26, .int a27, .ref h38, .ref h39, .ref h40, .ref h41, .ref h42, .ref h43])), (h3, .inl (cI, 2, .inl g2)), (h8, .inl (cI, 18, .inl g7)), (h9, .inl (cI, 18, .inl g8)), (h13, .inl (cZ, 2, .inl g12)), (h24, .inl (cI, 9, .inl g23)), (h25, .inl (cI, 9, .inl g24))] U.heap ∧ va_K (dC, dI) vwCl (ty5 cB cI cJ cZ cP) U ∧ va_D (fun _ => True) [(h0, .inr (9, [.ref h1, .ref h2, .int a0, .int a1, .int a2, .int a3, .int a4, .int a5, .int a6, .int a7, .long y0, .ref h3, .ref h4, .ref h5, .ref h6, .ref h7, .ref h8, .ref h9, .ref h10, .ref h11, .ref h12, .ref h13, .ref h14, .ref h15, .ref h16, .ref h17, .ref h18, .ref h19, .ref h20, .int a8, .int a9, .int a10, .int a11, .int a12, .ref h21, .ref h22, .ref h23, .int a13, .int a14, .int a15, .int a16, .int a17, .ref h24, .ref h25, .ref h26, .ref h27, .int a18, .int a19, .int a20, .int a21, .int a22, .int a23, .int a24, .ref h28, .ref h29, .ref h30, .int a25, .ref h31, .ref h32, .ref h33, .ref h34, .ref h35, .ref h36, .ref h37, .int a26, .int a27, .ref h38, .ref h39, .ref h40, .ref h41, .ref h42, .ref h43])), (h3, .inl (cI, 2, .inl g2)), (h8, .inl (cI, 18, .inl g7)), (h9, .inl (cI, 18, .inl g8)), (h13, .inl (cZ, 2, .inl g12)), (h24, .inl (cI, 9, .inl g23)), (h25, .inl (cI, 9, .inl g24))])) (va_Qi (fun (r : Int32) (u9 : Unit) => rg (-1) (8) r) (fun u9 t => va_P (dC, dI) vwCl [(h0, .inr (9, [.ref h1, .ref h2, .int a0, .int a1, .int a2, .int a3, .int a4, .int a5, .int a6, .int a7, .long y0, .ref h3, .ref h4, .ref h5, .ref h6, .ref h7, .ref h8, .ref h9, .ref h10, .ref h11, .ref h12, .ref h13, .ref h14, .ref h15, .ref h16, .ref h17, .ref h18, .ref h19, .ref h20, .int a8, .int a9, .int a10, .int a11, .int a12, .ref h21, .ref h22, .ref h23, .int a13, .int a14, .int a15, .int a16, .int a17, .ref h24, .ref h25, .ref h26, .ref h27, .int a18, .int a19, .int a20, .int a21, .int a22, .int a23, .int a24, .ref h28, .ref h29, .ref h30, .int a25, .ref h31, .ref h32, .ref h33, .ref h34, .ref h35, .ref h36, .ref h37, .int a26, .int a27, .ref h38, .ref h39, .ref h40, .ref h41, .ref h42, .ref h43])), (h3, .inl (cI, 2, .inl g2)), (h8, .inl (cI, 18, .inl g7)), (h9, .inl (cI, 18, .inl g8)), (h13, .inl (cZ, 2, .inl g12)), (h24, .inl (cI, 9, .inl g23)), (h25, .inl (cI, 9, .inl g24))] t.heap ∧ va_D (va_A [(h0, .inr (9, [.ref h1, .ref h2, .int a0, .int a1, .int a2, .int a3, .int a4, .int a5, .int a6, .int a7, .long y0, .ref h3, .ref h4, .ref h5, .ref h6, .ref h7, .ref h8, .ref h9, .ref h10, .ref h11, .ref h12, .ref h13, .ref h14, .ref h15, .ref h16, .ref h17, .ref h18, .ref h19, .ref h20, .int a8, .int a9, .int a10, .int a11, .int a12, .ref h21, .ref h22, .ref h23, .int a13, .int a14, .int a15, .int a16, .int a17, .ref h24, .ref h25, .ref h26, .ref h27, .int a18, .int a19, .int a20, .int a21, .int a22, .int a23, .int a24, .ref h28, .ref h29, .ref h30, .int a25, .ref h31, .ref h32, .ref h33, .ref h34, .ref h35, .ref h36, .ref h37, .int a26, .int a27, .ref h38, .ref h39, .ref h40, .ref h41, .ref h42, .ref h43])), (h3, .inl (cI, 2, .inl g2)), (h8, .inl (cI, 18, .inl g7)), (h9, .inl (cI, 18, .inl g8)), (h13, .inl (cZ, 2, .inl g12)), (h24, .inl (cI, 9, .inl g23)), (h25, .inl (cI, 9, .inl g24))] sz) [(h0, .inr (9, [.ref h1, .ref h2, .int a0, .int a1, .int a2, .int a3, .int a4, .int a5, .int a6, .int a7, .long y0, .ref h3, .ref h4, .ref h5, .ref h6, .ref h7, .ref h8, .ref h9, .ref h10, .ref h11, .ref h12, .ref h13, .ref h14, .ref h15, .ref h16, .ref h17, .ref h18, .ref h19, .ref h20, .int a8, .int a9, .int a10, .int a11, .int a12, .ref h21, .ref h22, .ref h23, .int a13, .int a14, .int a15, .int a16, .int a17, .ref h24, .ref h25, .ref h26, .ref h27, .int a18, .int a19, .int a20, .int a21, .int a22, .int a23, .int a24, .ref h28, .ref h29, .ref h30, .int a25, .ref h31, .ref h32, .ref h33, .ref h34, .ref h35, .ref h36, .ref h37, .int a26, .int a27, .ref h38, .ref h39, .ref h40, .ref h41, .ref h42, .ref h43])), (h3, .inl (cI, 2, .inl g2)), (h8, .inl (cI, 18, .inl g7)), (h9, .inl (cI, 18, .inl g8)), (h13, .inl (cZ, 2, .inl g12)), (h24, .inl (cI, 9, .inl g23)), (h25, .inl (cI, 9, .inl g24))]) (va_A [(h0, .inr (9, [.ref h1, .ref h2, .int a0, .int a1, .int a2, .int a3, .int a4, .int a5, .int a6, .int a7, .long y0, .ref h3, .ref h4, .ref h5, .ref h6, .ref h7, .ref h8, .ref h9, .ref h10, .ref h11, .ref h12, .ref h13, .ref h14, .ref h15, .ref h16, .ref h17, .ref h18, .ref h19, .ref h20, .int a8, .int a9, .int a10, .int a11, .int a12, .ref h21, .ref h22, .ref h23, .int a13, .int a14, .int a15, .int a16, .int a17, .ref h24, .ref h25, .ref h26, .ref h27, .int a18, .int a19, .int a20, .int a21, .int a22, .int a23, .int a24, .ref h28, .ref h29, .ref h30, .int a25, .ref h31, .ref h32, .ref h33, .ref h34, .ref h35, .ref h36, .ref h37, .int a26, .int a27, .ref h38, .ref h39, .ref h40, .ref h41, .ref h42, .ref h43])), (h3, .inl (cI, 2, .inl g2)), (h8, .inl (cI, 18, .inl g7)), (h9, .inl (cI, 18, .inl g8)), (h13, .inl (cZ, 2, .inl g12)), (h24, .inl (cI, 9, .inl g23)), (h25, .inl (cI, 9, .inl g24))] sz)) 0 0 (va_A [(h0, .inr (9, [.ref h1, .ref h2, .int a0, .int a1, .int a2, .int a3, .int a4, .int a5, .int a6, .int a7, .long y0, .ref h3, .ref h4, .ref h5, .ref h6, .ref h7, .ref h8, .ref h9, .ref h10, .ref h11, .ref h12, .ref h13, .ref h14, .ref h15, .ref h16, .ref h17, .ref h18, .ref h19, .ref h20, .int a8, .int a9, .int a10, .int a11, .int a12, .ref h21, .ref h22, .ref h23, .int a13, .int a14, .int a15, .int a16, .int a17, .ref h24, .ref h25, .ref h26, .ref h27, .int a18, .int a19, .int a20, .int a21, .int a22, .int a23, .int a24, .ref h28, .ref h29, .ref h30, .int a25, .ref h31, .ref h32, .ref h33, .ref h34, .ref h35, .ref h36, .ref h37, .int a26, .int a27, .ref h38, .ref h39, .ref h40, .ref h41, .ref h42, .ref h43])), (h3, .inl (cI, 2, .inl g2)), (h8, .inl (cI, 18, .inl g7)), (h9, .inl (cI, 18, .inl g8)), (h13, .inl (cZ, 2, .inl g12)), (h24, .inl (cI, 9, .inl g23)), (h25, .inl (cI, 9, .inl g24))] sz) := by
  refine Met.ofW (cc := cX9_firstWrong) (maxL := 3) (ret := (some .int)) (by decide) rfl ?_
  intro p e s m args below meth c s₁ B hml hv
  obtain ⟨rfl, hsz, hP, hK, hD0⟩ := hv
  have hx := B.exec
  have hb := B.bytes
  have hr := B.returns
  have hts := atoms_spec (ws := v_s_X9_firstWrong) B.pre
  have hown : s.vm.findClass RX9 = some m.cls := findClass_of_methodNamed B.named
  have hlocks := B.notSynchronized
  have hinX9 : ∀ w ∈ wsX90, w ∈ v_s_X9_firstWrong := fun _ h => List.mem_cons_of_mem _ (List.mem_append_right _ (List.mem_append_left _ h))
  subst hsz
  have hD := hD0.self (sz := s.heap.size)
  generalize hAe : va_A [(h0, .inr (9, [.ref h1, .ref h2, .int a0, .int a1, .int a2, .int a3, .int a4, .int a5, .int a6, .int a7, .long y0, .ref h3, .ref h4, .ref h5, .ref h6, .ref h7, .ref h8, .ref h9, .ref h10, .ref h11, .ref h12, .ref h13, .ref h14, .ref h15, .ref h16, .ref h17, .ref h18, .ref h19, .ref h20, .int a8, .int a9, .int a10, .int a11, .int a12, .ref h21, .ref h22, .ref h23, .int a13, .int a14, .int a15, .int a16, .int a17, .ref h24, .ref h25, .ref h26, .ref h27, .int a18, .int a19, .int a20, .int a21, .int a22, .int a23, .int a24, .ref h28, .ref h29, .ref h30, .int a25, .ref h31, .ref h32, .ref h33, .ref h34, .ref h35, .ref h36, .ref h37, .int a26, .int a27, .ref h38, .ref h39, .ref h40, .ref h41, .ref h42, .ref h43])), (h3, .inl (cI, 2, .inl g2)), (h8, .inl (cI, 18, .inl g7)), (h9, .inl (cI, 18, .inl g8)), (h13, .inl (cZ, 2, .inl g12)), (h24, .inl (cI, 9, .inl g23)), (h25, .inl (cI, 9, .inl g24))] s.heap.size = A at hD ⊢
  have hA : ∀ q : Nat, s.heap.size ≤ q → A q := fun q h => by rw [← hAe]; exact Or.inr h
  have hP : va_P (dC, dI) vwCl [(h0, .inr (9, [.ref h1, .ref h2, .int a0, .int a1, .int a2, .int a3, .int a4, .int a5, .int a6, .int a7, .long y0, .ref h3, .ref h4, .ref h5, .ref h6, .ref h7, .ref h8, .ref h9, .ref h10, .ref h11, .ref h12, .ref h13, .ref h14, .ref h15, .ref h16, .ref h17, .ref h18, .ref h19, .ref h20, .int a8, .int a9, .int a10, .int a11, .int a12, .ref h21, .ref h22, .ref h23, .int a13, .int a14, .int a15, .int a16, .int a17, .ref h24, .ref h25, .ref h26, .ref h27, .int a18, .int a19, .int a20, .int a21, .int a22, .int a23, .int a24, .ref h28, .ref h29, .ref h30, .int a25, .ref h31, .ref h32, .ref h33, .ref h34, .ref h35, .ref h36, .ref h37, .int a26, .int a27, .ref h38, .ref h39, .ref h40, .ref h41, .ref h42, .ref h43])), (h3, .inl (cI, 2, .inl g2)), (h8, .inl (cI, 18, .inl g7)), (h9, .inl (cI, 18, .inl g8)), (h13, .inl (cZ, 2, .inl g12)), (h24, .inl (cI, 9, .inl g23)), (h25, .inl (cI, 9, .inl g24))] s.heap := hP
  have hl := lv_entry ([.ref h0]) (n := 3) (Nat.le_of_ble_eq_true rfl)
  rw [lg_entry_eq]
  generalize (lg_sl ([.ref h0]) ++ List.replicate (3 - (lg_sl ([.ref h0])).length) Slot.unset).toArray = ls at hl ⊢
  have hl : lv_has ls 3 [(0, .ref h0)] := hl
  refine W_gen (A := A) hP (fun H locs hP hS => ?_)
  refine lv_aload_n hx hb dX9_firstWrong_0 rfl (lv_at hl 0 rfl) ?_
  have hPc := hP.sub (ws' := [(h0, .inr (9, [.ref h1, .ref h2, .int a0, .int a1, .int a2, .int a3, .int a4, .int a5, .int a6, .int a7, .long y0, .ref h3, .ref h4, .ref h5, .ref h6, .ref h7, .ref h8, .ref h9, .ref h10, .ref h11, .ref h12, .ref h13, .ref h14, .ref h15, .ref h16, .ref h17, .ref h18, .ref h19, .ref h20, .int a8, .int a9, .int a10, .int a11, .int a12, .ref h21, .ref h22, .ref h23, .int a13, .int a14, .int a15, .int a16, .int a17, .ref h24, .ref h25, .ref h26, .ref h27, .int a18, .int a19, .int a20, .int a21, .int a22, .int a23, .int a24, .ref h28, .ref h29, .ref h30, .int a25, .ref h31, .ref h32, .ref h33, .ref h34, .ref h35, .ref h36, .ref h37, .int a26, .int a27, .ref h38, .ref h39, .ref h40, .ref h41, .ref h42, .ref h43])), (h3, .inl (cI, 2, .inl g2))]) [0, 1] rfl
  have hDc := hD.sub (ws' := [(h0, .inr (9, [.ref h1, .ref h2, .int a0, .int a1, .int a2, .int a3, .int a4, .int a5, .int a6, .int a7, .long y0, .ref h3, .ref h4, .ref h5, .ref h6, .ref h7, .ref h8, .ref h9, .ref h10, .ref h11, .ref h12, .ref h13, .ref h14, .ref h15, .ref h16, .ref h17, .ref h18, .ref h19, .ref h20, .int a8, .int a9, .int a10, .int a11, .int a12, .ref h21, .ref h22, .ref h23, .int a13, .int a14, .int a15, .int a16, .int a17, .ref h24, .ref h25, .ref h26, .ref h27, .int a18, .int a19, .int a20, .int a21, .int a22, .int a23, .int a24, .ref h28, .ref h29, .ref h30, .int a25, .ref h31, .ref h32, .ref h33, .ref h34, .ref h35, .ref h36, .ref h37, .int a26, .int a27, .ref h38, .ref h39, .ref h40, .ref h41, .ref h42, .ref h43])), (h3, .inl (cI, 2, .inl g2))]) [0, 1] (by decide) rfl
  have hFc := va_free (wc := [(h0, .inr (9, [.ref h1, .ref h2, .int a0, .int a1, .int a2, .int a3, .int a4, .int a5, .int a6, .int a7, .long y0, .ref h3, .ref h4, .ref h5, .ref h6, .ref h7, .ref h8, .ref h9, .ref h10, .ref h11, .ref h12, .ref h13, .ref h14, .ref h15, .ref h16, .ref h17, .ref h18, .ref h19, .ref h20, .int a8, .int a9, .int a10, .int a11, .int a12, .ref h21, .ref h22, .ref h23, .int a13, .int a14, .int a15, .int a16, .int a17, .ref h24, .ref h25, .ref h26, .ref h27, .int a18, .int a19, .int a20, .int a21, .int a22, .int a23, .int a24, .ref h28, .ref h29, .ref h30, .int a25, .ref h31, .ref h32, .ref h33, .ref h34, .ref h35, .ref h36, .ref h37, .int a26, .int a27, .ref h38, .ref h39, .ref h40, .ref h41, .ref h42, .ref h43])), (h3, .inl (cI, 2, .inl g2))]) hD hS hA [0, 1] rfl
  refine va_calli (va_runV (As := []) (rest := []) ⟨hx, hb, hml, hown, hts⟩ (c_s_X9_manyIn l dC dI cB cI cJ cZ cP h0 h1 h2 a0 a1 a2 a3 a4 a5 a6 a7 y0 h3 g2 hg2 h4 h5 h6 h7 h8 h9 h10 h11 h12 h13 h14 h15 h16 h17 h18 h19 h20 a8 (rg_mono ha8 (by decide) (by decide)) a9 a10 a11 a12 h21 h22 h23 a13 a14 a15 a16 a17 h24 h25 h26 h27 a18 a19 a20 a21 a22 a23 a24 h28 h29 h30 a25 h31 h32 h33 h34 h35 h36 h37 a26 a27 h38 h39 h40 h41 h42 h43 kr1 H.size) (cwV 0 hts (gd_V (List.mem_of_getElem? (i := 1) rfl) (List.mem_of_getElem? (i := 2) rfl) (List.mem_of_getElem? (i := 3) rfl) (List.mem_of_getElem? (i := 4) rfl) (gd_mono k_s_X9_manyIn (fun _ h => List.mem_cons_of_mem _ (List.mem_append_right _ (List.mem_append_right _ (List.mem_append_left _ h)))))) rfl rfl rfl (by decide +kernel) ⟨Nat.le_of_ble_eq_true rfl, Nat.le_of_ble_eq_true rfl⟩) ⟨fun a U g mk q => by obtain ⟨q0, q1, qP, qK, qD⟩ := q; exact ⟨q0, q1, qP, va_K.moved (u := U) (U := U.calling g mk a) (Vm.Alike.refl U.vm) qK, qD⟩, va_recv hK hPc (ci := 9) (q0 := 0) rfl rfl, fun U hU hW => ⟨rfl, by rw [hU], by rw [hU]; exact hPc, va_K.moved hW.alike hK, hDc.weaken (fun _ _ _ _ => trivial)⟩⟩ rfl rfl hl.1 rfl (lv_room (Nat.le_of_ble_eq_true rfl)) dX9_firstWrong_1 ⟨Nat.le_of_ble_eq_true rfl, Nat.le_of_ble_eq_true rfl⟩) hS (fun q _ h => hFc q h) hFc (fun r_1 u t H1 locs ht hvm hw hB hz1 hk1 hS => ?_)
  obtain ⟨hu9, hw⟩ := hw
  rw [hu9] at hB
  clear hu9
  obtain ⟨k_2, hP1, hD1⟩ := hB
  rw [ht] at hP1
  obtain ⟨hP, hD⟩ := va_join (wr := [(h8, .inl (cI, 18, .inl g7)), (h9, .inl (cI, 18, .inl g8)), (h13, .inl (cZ, 2, .inl g12)), (h24, .inl (cI, 9, .inl g23)), (h25, .inl (cI, 9, .inl g24))]) (w1 := [(h0, .inr (9, [.ref h1, .ref h2, .int a0, .int a1, .int a2, .int a3, .int a4, .int a5, .int a6, .int a7, .long y0, .ref h3, .ref h4, .ref h5, .ref h6, .ref h7, .ref h8, .ref h9, .ref h10, .ref h11, .ref h12, .ref h13, .ref h14, .ref h15, .ref h16, .ref h17, .ref h18, .ref h19, .ref h20, .int a8, .int a9, .int a10, .int a11, .int a12, .ref h21, .ref h22, .ref h23, .int a13, .int a14, .int a15, .int a16, .int a17, .ref h24, .ref h25, .ref h26, .ref h27, .int a18, .int a19, .int a20, .int a21, .int a22, .int a23, .int a24, .ref h28, .ref h29, .ref h30, .int a25, .ref h31, .ref h32, .ref h33, .ref h34, .ref h35, .ref h36, .ref h37, .int a26, .int a27, .ref h38, .ref h39, .ref h40, .ref h41, .ref h42, .ref h43])), (h3, .inl (cI, 2, .inl g2))]) hP hD [0, 1] [2, 3, 4, 5, 6] rfl rfl (by decide) (by decide) hk1 hFc hP1 hD1
  generalize H1 = H at hP hS ⊢
  replace hP : va_P (dC, dI) vwCl [(h8, .inl (cI, 18, .inl g7)), (h9, .inl (cI, 18, .inl g8)), (h13, .inl (cZ, 2, .inl g12)), (h24, .inl (cI, 9, .inl g23)), (h25, .inl (cI, 9, .inl g24)), (h0, .inr (9, [.ref h1, .ref h2, .int a0, .int a1, .int a2, .int a3, .int a4, .int a5, .int a6, .int a7, .long y0, .ref h3, .ref h4, .ref h5, .ref h6, .ref h7, .ref h8, .ref h9, .ref h10, .ref h11, .ref h12, .ref h13, .ref h14, .ref h15, .ref h16, .ref h17, .ref h18, .ref h19, .ref h20, .int a8, .int a9, .int a10, .int a11, .int a12, .ref h21, .ref h22, .ref h23, .int a13, .int a14, .int a15, .int a16, .int a17, .ref h24, .ref h25, .ref h26, .ref h27, .int a18, .int a19, .int a20, .int a21, .int a22, .int a23, .int a24, .ref h28, .ref h29, .ref h30, .int a25, .ref h31, .ref h32, .ref h33, .ref h34, .ref h35, .ref h36, .ref h37, .int a26, .int a27, .ref h38, .ref h39, .ref h40, .ref h41, .ref h42, .ref h43])), (h3, .inl (cI, 2, .inl g2))] H := hP
  replace hD : va_D A [(h8, .inl (cI, 18, .inl g7)), (h9, .inl (cI, 18, .inl g8)), (h13, .inl (cZ, 2, .inl g12)), (h24, .inl (cI, 9, .inl g23)), (h25, .inl (cI, 9, .inl g24)), (h0, .inr (9, [.ref h1, .ref h2, .int a0, .int a1, .int a2, .int a3, .int a4, .int a5, .int a6, .int a7, .long y0, .ref h3, .ref h4, .ref h5, .ref h6, .ref h7, .ref h8, .ref h9, .ref h10, .ref h11, .ref h12, .ref h13, .ref h14, .ref h15, .ref h16, .ref h17, .ref h18, .ref h19, .ref h20, .int a8, .int a9, .int a10, .int a11, .int a12, .ref h21, .ref h22, .ref h23, .int a13, .int a14, .int a15, .int a16, .int a17, .ref h24, .ref h25, .ref h26, .ref h27, .int a18, .int a19, .int a20, .int a21, .int a22, .int a23, .int a24, .ref h28, .ref h29, .ref h30, .int a25, .ref h31, .ref h32, .ref h33, .ref h34, .ref h35, .ref h36, .ref h37, .int a26, .int a27, .ref h38, .ref h39, .ref h40, .ref h41, .ref h42, .ref h43])), (h3, .inl (cI, 2, .inl g2))] := hD
  have hr_1 : rg (0) (9) r_1 := hw
  refine lv_istore_n (lv' := [(1, .int r_1), (0, .ref h0)]) hx hb dX9_firstWrong_4 rfl hl (by decide) rfl (fun ls hl => ?_)
  refine lv_iconst (v := 0) hx hb dX9_firstWrong_5 (by decide) ?_
  refine lv_istore_n (lv' := [(2, .int 0), (1, .int r_1), (0, .ref h0)]) hx hb dX9_firstWrong_6 rfl hl (by decide) rfl (fun ls hl => ?_)
  refine W_loopM (σ := Int32) (fun u H locs ls => va_P (dC, dI) vwCl [(h8, .inl (cI, 18, .inl g7)), (h9, .inl (cI, 18, .inl g8)), (h13, .inl (cZ, 2, .inl g12)), (h24, .inl (cI, 9, .inl g23)), (h25, .inl (cI, 9, .inl g24)), (h0, .inr (9, [.ref h1, .ref h2, .int a0, .int a1, .int a2, .int a3, .int a4, .int a5, .int a6, .int a7, .long y0, .ref h3, .ref h4, .ref h5, .ref h6, .ref h7, .ref h8, .ref h9, .ref h10, .ref h11, .ref h12, .ref h13, .ref h14, .ref h15, .ref h16, .ref h17, .ref h18, .ref h19, .ref h20, .int a8, .int a9, .int a10, .int a11, .int a12, .ref h21, .ref h22, .ref h23, .int a13, .int a14, .int a15, .int a16, .int a17, .ref h24, .ref h25, .ref h26, .ref h27, .int a18, .int a19, .int a20, .int a21, .int a22, .int a23, .int a24, .ref h28, .ref h29, .ref h30, .int a25, .ref h31, .ref h32, .ref h33, .ref h34, .ref h35, .ref h36, .ref h37, .int a26, .int a27, .ref h38, .ref h39, .ref h40, .ref h41, .ref h42, .ref h43])), (h3, .inl (cI, 2, .inl g2))] H ∧ va_D A [(h8, .inl (cI, 18, .inl g7)), (h9, .inl (cI, 18, .inl g8)), (h13, .inl (cZ, 2, .inl g12)), (h24, .inl (cI, 9, .inl g23)), (h25, .inl (cI, 9, .inl g24)), (h0, .inr (9, [.ref h1, .ref h2, .int a0, .int a1, .int a2, .int a3, .int a4, .int a5, .int a6, .int a7, .long y0, .ref h3, .ref h4, .ref h5, .ref h6, .ref h7, .ref h8, .ref h9, .ref h10, .ref h11, .ref h12, .ref h13, .ref h14, .ref h15, .ref h16, .ref h17, .ref h18, .ref h19, .ref h20, .int a8, .int a9, .int a10, .int a11, .int a12, .ref h21, .ref h22, .ref h23, .int a13, .int a14, .int a15, .int a16, .int a17, .ref h24, .ref h25, .ref h26, .ref h27, .int a18, .int a19, .int a20, .int a21, .int a22, .int a23, .int a24, .ref h28, .ref h29, .ref h30, .int a25, .ref h31, .ref h32, .ref h33, .ref h34, .ref h35, .ref h36, .ref h37, .int a26, .int a27, .ref h38, .ref h39, .ref h40, .ref h41, .ref h42, .ref h43])), (h3, .inl (cI, 2, .inl g2))] ∧ va_S A s.heap H locs ∧ lv_has ls 3 [(2, .int u), (1, .int r_1), (0, .ref h0)] ∧ rg (0) (9) u) (fun u => ((9) - u.toInt).toNat) 7 [] ?_ (0) H locs ls ⟨hP, hD, hS, hl, (rg_mono (rg_k (x := 0) (c := 0) (by decide)) (by decide) (by decide))⟩
  rintro x_466 H locs ls ⟨hP, hD, hS, hl, hx_466⟩ ih_533
  replace hP : va_P (dC, dI) vwCl [(h8, .inl (cI, 18, .inl g7)), (h9, .inl (cI, 18, .inl g8)), (h13, .inl (cZ, 2, .inl g12)), (h24, .inl (cI, 9, .inl g23)), (h25, .inl (cI, 9, .inl g24)), (h0, .inr (9, [.ref h1, .ref h2, .int a0, .int a1, .int a2, .int a3, .int a4, .int a5, .int a6, .int a7, .long y0, .ref h3, .ref h4, .ref h5, .ref h6, .ref h7, .ref h8, .ref h9, .ref h10, .ref h11, .ref h12, .ref h13, .ref h14, .ref h15, .ref h16, .ref h17, .ref h18, .ref h19, .ref h20, .int a8, .int a9, .int a10, .int a11, .int a12, .ref h21, .ref h22, .ref h23, .int a13, .int a14, .int a15, .int a16, .int a17, .ref h24, .ref h25, .ref h26, .ref h27, .int a18, .int a19, .int a20, .int a21, .int a22, .int a23, .int a24, .ref h28, .ref h29, .ref h30, .int a25, .ref h31, .ref h32, .ref h33, .ref h34, .ref h35, .ref h36, .ref h37, .int a26, .int a27, .ref h38, .ref h39, .ref h40, .ref h41, .ref h42, .ref h43])), (h3, .inl (cI, 2, .inl g2))] H := hP
  replace hD : va_D A [(h8, .inl (cI, 18, .inl g7)), (h9, .inl (cI, 18, .inl g8)), (h13, .inl (cZ, 2, .inl g12)), (h24, .inl (cI, 9, .inl g23)), (h25, .inl (cI, 9, .inl g24)), (h0, .inr (9, [.ref h1, .ref h2, .int a0, .int a1, .int a2, .int a3, .int a4, .int a5, .int a6, .int a7, .long y0, .ref h3, .ref h4, .ref h5, .ref h6, .ref h7, .ref h8, .ref h9, .ref h10, .ref h11, .ref h12, .ref h13, .ref h14, .ref h15, .ref h16, .ref h17, .ref h18, .ref h19, .ref h20, .int a8, .int a9, .int a10, .int a11, .int a12, .ref h21, .ref h22, .ref h23, .int a13, .int a14, .int a15, .int a16, .int a17, .ref h24, .ref h25, .ref h26, .ref h27, .int a18, .int a19, .int a20, .int a21, .int a22, .int a23, .int a24, .ref h28, .ref h29, .ref h30, .int a25, .ref h31, .ref h32, .ref h33, .ref h34, .ref h35, .ref h36, .ref h37, .int a26, .int a27, .ref h38, .ref h39, .ref h40, .ref h41, .ref h42, .ref h43])), (h3, .inl (cI, 2, .inl g2))] := hD
  replace hl : lv_has ls 3 [(2, .int x_466), (1, .int r_1), (0, .ref h0)] := hl
  replace hx_466 : rg (0) (9) x_466 := hx_466
  refine lv_iload_n hx hb dX9_firstWrong_7 rfl (lv_at hl 0 rfl) ?_
  refine lv_iload_n hx hb dX9_firstWrong_8 rfl (lv_at hl 1 rfl) ?_
  refine lv_icmp_ge (tgt := 97) hx hb dX9_firstWrong_9 (by decide) (fun c_534 => ?_) (fun c_534 => ?_)
  · skip
    refine lv_iconst (v := (-1)) hx hb dX9_firstWrong_97 (by decide) ?_
    have hP9 := hP.sub (ws' := [(h0, .inr (9, [.ref h1, .ref h2, .int a0, .int a1, .int a2, .int a3, .int a4, .int a5, .int a6, .int a7, .long y0, .ref h3, .ref h4, .ref h5, .ref h6, .ref h7, .ref h8, .ref h9, .ref h10, .ref h11, .ref h12, .ref h13, .ref h14, .ref h15, .ref h16, .ref h17, .ref h18, .ref h19, .ref h20, .int a8, .int a9, .int a10, .int a11, .int a12, .ref h21, .ref h22, .ref h23, .int a13, .int a14, .int a15, .int a16, .int a17, .ref h24, .ref h25, .ref h26, .ref h27, .int a18, .int a19, .int a20, .int a21, .int a22, .int a23, .int a24, .ref h28, .ref h29, .ref h30, .int a25, .ref h31, .ref h32, .ref h33, .ref h34, .ref h35, .ref h36, .ref h37, .int a26, .int a27, .ref h38, .ref h39, .ref h40, .ref h41, .ref h42, .ref h43])), (h3, .inl (cI, 2, .inl g2)), (h8, .inl (cI, 18, .inl g7)), (h9, .inl (cI, 18, .inl g8)), (h13, .inl (cZ, 2, .inl g12)), (h24, .inl (cI, 9, .inl g23)), (h25, .inl (cI, 9, .inl g24))]) [5, 6, 0, 1, 2, 3, 4] rfl
    have hD9 := hD.sub (ws' := [(h0, .inr (9, [.ref h1, .ref h2, .int a0, .int a1, .int a2, .int a3, .int a4, .int a5, .int a6, .int a7, .long y0, .ref h3, .ref h4, .ref h5, .ref h6, .ref h7, .ref h8, .ref h9, .ref h10, .ref h11, .ref h12, .ref h13, .ref h14, .ref h15, .ref h16, .ref h17, .ref h18, .ref h19, .ref h20, .int a8, .int a9, .int a10, .int a11, .int a12, .ref h21, .ref h22, .ref h23, .int a13, .int a14, .int a15, .int a16, .int a17, .ref h24, .ref h25, .ref h26, .ref h27, .int a18, .int a19, .int a20, .int a21, .int a22, .int a23, .int a24, .ref h28, .ref h29, .ref h30, .int a25, .ref h31, .ref h32, .ref h33, .ref h34, .ref h35, .ref h36, .ref h37, .int a26, .int a27, .ref h38, .ref h39, .ref h40, .ref h41, .ref h42, .ref h43])), (h3, .inl (cI, 2, .inl g2)), (h8, .inl (cI, 18, .inl g7)), (h9, .inl (cI, 18, .inl g8)), (h13, .inl (cZ, 2, .inl g12)), (h24, .inl (cI, 9, .inl g23)), (h25, .inl (cI, 9, .inl g24))]) [5, 6, 0, 1, 2, 3, 4] (by decide) rfl
    exact W.iret (v := (-1)) hx hb hr (fun t ht hW => ⟨⟨(-1), (), rfl, (rg_mono (rg_k (x := (-1)) (c := -1) (by decide)) (by decide) (by decide)), ⟨by rw [ht]; exact hP9, hD9⟩⟩, hS.F ht⟩) hS.2.2 dX9_firstWrong_98
  · skip
    have h_535 : rg (0) (8) x_466 := by have ha := hx_466; have hb_ := hr_1; simp only [rg, fa_lt, fa_le, fa_eq] at ha hb_ c_534; simp only [rg]; omega
    have h_536 : rg (1) (9) r_1 := by have ha := h_535; have hb_ := hr_1; have hc_ := c_534; simp only [rg, fa_lt, fa_le, fa_eq] at ha hb_ hc_; simp only [rg]; omega
    have h_537 : rg (1) (9) r_1 := by have ha := hx_466; have hb_ := hr_1; simp only [rg, fa_lt, fa_le, fa_eq] at ha hb_ c_534; simp only [rg]; omega
    refine lv_aload_n hx hb dX9_firstWrong_12 rfl (lv_at hl 2 rfl) ?_
    refine lv_iload_n hx hb dX9_firstWrong_13 rfl (lv_at hl 0 rfl) ?_
    refine lv_aload_n hx hb dX9_firstWrong_14 rfl (lv_at hl 2 rfl) ?_
    refine va_get (D := (dC, dI)) (ci := 9) (v := .ref h24) (C := RX9) (T := TX9) (N := 72) hx hb hts hinX9 hown hK hP 5 rfl rfl 42 (by decide) (hts (.fieldLink RX9 89 "MayRingsModel" "row" "[I") (List.mem_of_getElem? (i := 5) rfl)) (fun _ h9 => h9) rfl dX9_firstWrong_15 ?_
    refine lv_iload_n hx hb dX9_firstWrong_18 rfl (lv_at hl 0 rfl) ?_
    refine va_iald hx hb hK hP 3 1 rfl rfl (rg_in (n := 9) (rg_mono h_535 (by decide) (by decide))) dX9_firstWrong_19 ?_
    refine lv_topi (fun x_538 ex_538 => ?_)
    have hx_538 : rg (-1) (9) x_538 := by rw [ex_538]; exact rg_mono (hg23 _) (by decide) (by decide)
    have h_539 : rg 0 8 x_538 := by rw [ex_538]; exact r8_at (p := r_1) (by rw [k_2]; exact kr0) h_535 (by decide) (by have h9 := c_534; simp only [fa_lt, fa_le, fa_eq] at h9; omega)
    have hPc := hP.sub (ws' := [(h0, .inr (9, [.ref h1, .ref h2, .int a0, .int a1, .int a2, .int a3, .int a4, .int a5, .int a6, .int a7, .long y0, .ref h3, .ref h4, .ref h5, .ref h6, .ref h7, .ref h8, .ref h9, .ref h10, .ref h11, .ref h12, .ref h13, .ref h14, .ref h15, .ref h16, .ref h17, .ref h18, .ref h19, .ref h20, .int a8, .int a9, .int a10, .int a11, .int a12, .ref h21, .ref h22, .ref h23, .int a13, .int a14, .int a15, .int a16, .int a17, .ref h24, .ref h25, .ref h26, .ref h27, .int a18, .int a19, .int a20, .int a21, .int a22, .int a23, .int a24, .ref h28, .ref h29, .ref h30, .int a25, .ref h31, .ref h32, .ref h33, .ref h34, .ref h35, .ref h36, .ref h37, .int a26, .int a27, .ref h38, .ref h39, .ref h40, .ref h41, .ref h42, .ref h43])), (h8, .inl (cI, 18, .inl g7)), (h9, .inl (cI, 18, .inl g8))]) [5, 0, 1] rfl
    have hDc := hD.sub (ws' := [(h0, .inr (9, [.ref h1, .ref h2, .int a0, .int a1, .int a2, .int a3, .int a4, .int a5, .int a6, .int a7, .long y0, .ref h3, .ref h4, .ref h5, .ref h6, .ref h7, .ref h8, .ref h9, .ref h10, .ref h11, .ref h12, .ref h13, .ref h14, .ref h15, .ref h16, .ref h17, .ref h18, .ref h19, .ref h20, .int a8, .int a9, .int a10, .int a11, .int a12, .ref h21, .ref h22, .ref h23, .int a13, .int a14, .int a15, .int a16, .int a17, .ref h24, .ref h25, .ref h26, .ref h27, .int a18, .int a19, .int a20, .int a21, .int a22, .int a23, .int a24, .ref h28, .ref h29, .ref h30, .int a25, .ref h31, .ref h32, .ref h33, .ref h34, .ref h35, .ref h36, .ref h37, .int a26, .int a27, .ref h38, .ref h39, .ref h40, .ref h41, .ref h42, .ref h43])), (h8, .inl (cI, 18, .inl g7)), (h9, .inl (cI, 18, .inl g8))]) [5, 0, 1] (by decide) rfl
    have hFc := va_free (wc := [(h0, .inr (9, [.ref h1, .ref h2, .int a0, .int a1, .int a2, .int a3, .int a4, .int a5, .int a6, .int a7, .long y0, .ref h3, .ref h4, .ref h5, .ref h6, .ref h7, .ref h8, .ref h9, .ref h10, .ref h11, .ref h12, .ref h13, .ref h14, .ref h15, .ref h16, .ref h17, .ref h18, .ref h19, .ref h20, .int a8, .int a9, .int a10, .int a11, .int a12, .ref h21, .ref h22, .ref h23, .int a13, .int a14, .int a15, .int a16, .int a17, .ref h24, .ref h25, .ref h26, .ref h27, .int a18, .int a19, .int a20, .int a21, .int a22, .int a23, .int a24, .ref h28, .ref h29, .ref h30, .int a25, .ref h31, .ref h32, .ref h33, .ref h34, .ref h35, .ref h36, .ref h37, .int a26, .int a27, .ref h38, .ref h39, .ref h40, .ref h41, .ref h42, .ref h43])), (h8, .inl (cI, 18, .inl g7)), (h9, .inl (cI, 18, .inl g8))]) hD hS hA [5, 0, 1] rfl
    refine va_calli (va_runV (As := [.int x_466, .int x_538]) (rest := []) ⟨hx, hb, hml, hown, hts⟩ (c_s_X9_bearsAt l dC dI cB cI cJ cZ cP h0 h1 h2 a0 a1 a2 a3 a4 a5 a6 a7 y0 h3 h4 h5 h6 h7 h8 g7 h9 g8 h10 h11 h12 h13 h14 h15 h16 h17 h18 h19 h20 a8 (rg_mono ha8 (by decide) (by decide)) a9 a10 a11 a12 h21 h22 h23 a13 a14 a15 a16 a17 h24 h25 h26 h27 a18 a19 a20 a21 a22 a23 a24 h28 h29 h30 a25 h31 h32 h33 h34 h35 h36 h37 a26 a27 h38 h39 h40 h41 h42 h43 x_466 (rg_mono h_535 (by decide) (by decide)) x_538 (rg_mono h_539 (by decide) (by decide)) H.size) (cwV 2 hts (gd_V (List.mem_of_getElem? (i := 6) rfl) (List.mem_of_getElem? (i := 7) rfl) (List.mem_of_getElem? (i := 8) rfl) (List.mem_of_getElem? (i := 4) rfl) (gd_mono k_s_X9_bearsAt (fun _ h => List.mem_cons_of_mem _ (List.mem_append_right _ (List.mem_append_right _ (List.mem_append_right _ (List.mem_append_left _ h))))))) rfl rfl rfl (by decide +kernel) ⟨Nat.le_of_ble_eq_true rfl, Nat.le_of_ble_eq_true rfl⟩) ⟨fun a U g mk q => by obtain ⟨q0, q1, qP, qK, qD⟩ := q; exact ⟨q0, q1, qP, va_K.moved (u := U) (U := U.calling g mk a) (Vm.Alike.refl U.vm) qK, qD⟩, va_recv hK hPc (ci := 9) (q0 := 0) rfl rfl, fun U hU hW => ⟨rfl, by rw [hU], by rw [hU]; exact hPc, va_K.moved hW.alike hK, hDc.weaken (fun _ _ _ _ => trivial)⟩⟩ rfl rfl hl.1 rfl (lv_room (Nat.le_of_ble_eq_true rfl)) dX9_firstWrong_20 ⟨Nat.le_of_ble_eq_true rfl, Nat.le_of_ble_eq_true rfl⟩) hS (fun q _ h => hFc q h) hFc (fun r_540 u t H1 locs ht hvm hw hB hz1 hk1 hS => ?_)
    obtain ⟨hP1, hD1⟩ := hB
    rw [ht] at hP1
    obtain ⟨hP, hD⟩ := va_join (wr := [(h13, .inl (cZ, 2, .inl g12)), (h24, .inl (cI, 9, .inl g23)), (h25, .inl (cI, 9, .inl g24)), (h3, .inl (cI, 2, .inl g2))]) (w1 := [(h0, .inr (9, [.ref h1, .ref h2, .int a0, .int a1, .int a2, .int a3, .int a4, .int a5, .int a6, .int a7, .long y0, .ref h3, .ref h4, .ref h5, .ref h6, .ref h7, .ref h8, .ref h9, .ref h10, .ref h11, .ref h12, .ref h13, .ref h14, .ref h15, .ref h16, .ref h17, .ref h18, .ref h19, .ref h20, .int a8, .int a9, .int a10, .int a11, .int a12, .ref h21, .ref h22, .ref h23, .int a13, .int a14, .int a15, .int a16, .int a17, .ref h24, .ref h25, .ref h26, .ref h27, .int a18, .int a19, .int a20, .int a21, .int a22, .int a23, .int a24, .ref h28, .ref h29, .ref h30, .int a25, .ref h31, .ref h32, .ref h33, .ref h34, .ref h35, .ref h36, .ref h37, .int a26, .int a27, .ref h38, .ref h39, .ref h40, .ref h41, .ref h42, .ref h43])), (h8, .inl (cI, 18, .inl g7)), (h9, .inl (cI, 18, .inl g8))]) hP hD [5, 0, 1] [2, 3, 4, 6] rfl rfl (by decide) (by decide) hk1 hFc hP1 hD1
    generalize H1 = H at hP hS ⊢
    replace hP : va_P (dC, dI) vwCl [(h13, .inl (cZ, 2, .inl g12)), (h24, .inl (cI, 9, .inl g23)), (h25, .inl (cI, 9, .inl g24)), (h3, .inl (cI, 2, .inl g2)), (h0, .inr (9, [.ref h1, .ref h2, .int a0, .int a1, .int a2, .int a3, .int a4, .int a5, .int a6, .int a7, .long y0, .ref h3, .ref h4, .ref h5, .ref h6, .ref h7, .ref h8, .ref h9, .ref h10, .ref h11, .ref h12, .ref h13, .ref h14, .ref h15, .ref h16, .ref h17, .ref h18, .ref h19, .ref h20, .int a8, .int a9, .int a10, .int a11, .int a12, .ref h21, .ref h22, .ref h23, .int a13, .int a14, .int a15, .int a16, .int a17, .ref h24, .ref h25, .ref h26, .ref h27, .int a18, .int a19, .int a20, .int a21, .int a22, .int a23, .int a24, .ref h28, .ref h29, .ref h30, .int a25, .ref h31, .ref h32, .ref h33, .ref h34, .ref h35, .ref h36, .ref h37, .int a26, .int a27, .ref h38, .ref h39, .ref h40, .ref h41, .ref h42, .ref h43])), (h8, .inl (cI, 18, .inl g7)), (h9, .inl (cI, 18, .inl g8))] H := hP
    replace hD : va_D A [(h13, .inl (cZ, 2, .inl g12)), (h24, .inl (cI, 9, .inl g23)), (h25, .inl (cI, 9, .inl g24)), (h3, .inl (cI, 2, .inl g2)), (h0, .inr (9, [.ref h1, .ref h2, .int a0, .int a1, .int a2, .int a3, .int a4, .int a5, .int a6, .int a7, .long y0, .ref h3, .ref h4, .ref h5, .ref h6, .ref h7, .ref h8, .ref h9, .ref h10, .ref h11, .ref h12, .ref h13, .ref h14, .ref h15, .ref h16, .ref h17, .ref h18, .ref h19, .ref h20, .int a8, .int a9, .int a10, .int a11, .int a12, .ref h21, .ref h22, .ref h23, .int a13, .int a14, .int a15, .int a16, .int a17, .ref h24, .ref h25, .ref h26, .ref h27, .int a18, .int a19, .int a20, .int a21, .int a22, .int a23, .int a24, .ref h28, .ref h29, .ref h30, .int a25, .ref h31, .ref h32, .ref h33, .ref h34, .ref h35, .ref h36, .ref h37, .int a26, .int a27, .ref h38, .ref h39, .ref h40, .ref h41, .ref h42, .ref h43])), (h8, .inl (cI, 18, .inl g7)), (h9, .inl (cI, 18, .inl g8))] := hD
    have hr_540 : rg (0) (1) r_540 := hw
    refine lv_if_ne (tgt := 28) hx hb dX9_firstWrong_23 (by decide) (fun c_541 => ?_) (fun c_541 => ?_)
    · skip
      have h_542 : rg (1) (1) r_540 := by have ha := hr_540; have hb_ := (rg_k (x := 0) (c := 0) (by decide)); simp only [rg, fa_lt, fa_le, fa_eq, (by decide : (0 : Int32).toInt = 0)] at ha hb_ c_541; simp only [rg]; omega
      refine lv_iload_n hx hb dX9_firstWrong_28 rfl (lv_at hl 0 rfl) ?_
      refine lv_iconst (v := 1) hx hb dX9_firstWrong_29 (by decide) ?_
      refine lv_iadd hx hb dX9_firstWrong_30 ?_
      refine lv_topi (fun x_543 ex_543 => ?_)
      have hx_543 : rg (1) (9) x_543 := by rw [ex_543]; exact rg_mono (rg_add h_535 (rg_k (x := 1) (c := 1) (by decide)) (by decide) (by decide)) (by decide) (by decide)
      have qx_543 : x_543.toInt = x_466.toInt + (1) := by rw [ex_543]; exact rg_addE h_535 (rg_k (x := 1) (c := 1) (by decide)) (by decide) (by decide) trivial
      refine lv_iload_n hx hb dX9_firstWrong_31 rfl (lv_at hl 1 rfl) ?_
      refine lv_icmp_ge (tgt := 56) hx hb dX9_firstWrong_32 (by decide) (fun c_544 => ?_) (fun c_544 => ?_)
      · skip
        refine lv_iload_n hx hb dX9_firstWrong_56 rfl (lv_at hl 0 rfl) ?_
        refine lv_iconst (v := 1) hx hb dX9_firstWrong_57 (by decide) ?_
        refine lv_iadd hx hb dX9_firstWrong_58 ?_
        refine tp_v (.int x_543) (congrArg Value.int (ex_543.symm)) ?_
        refine lv_iload_n hx hb dX9_firstWrong_59 rfl (lv_at hl 1 rfl) ?_
        refine lv_icmp_ne (tgt := 91) hx hb dX9_firstWrong_60 (by decide) (fun c_545 => ?_) (fun c_545 => ?_)
        · skip
          obtain ⟨x_546, ex_546⟩ : ∃ y : Int32, y = x_466 + Int32.ofInt (1) := ⟨_, rfl⟩
          have hx_546 : rg (1) (9) x_546 := by rw [ex_546]; exact rg_mono (rg_add h_535 (rg_k (x := Int32.ofInt (1)) (c := 1) (by decide)) (by decide) (by decide)) (by decide) (by decide)
          have qx_546 : x_546.toInt = x_466.toInt + (1) := by rw [ex_546]; exact rg_addE h_535 (rg_k (x := Int32.ofInt (1)) (c := 1) (by decide)) (by decide) (by decide) (by decide)
          refine lv_iinc (v := x_546) (lv' := [(2, .int x_546), (1, .int r_1), (0, .ref h0)]) hx hb dX9_firstWrong_91 hl (k := 0) rfl (ex_546.symm) (by decide) rfl (fun ls hl => ?_)
          clear ex_546
          refine lv_goto (tgt := 7) hx hb dX9_firstWrong_94 (by decide) ?_
          exact ih_533 (x_546) H locs ls ⟨hP.sub (ws' := [(h8, .inl (cI, 18, .inl g7)), (h9, .inl (cI, 18, .inl g8)), (h13, .inl (cZ, 2, .inl g12)), (h24, .inl (cI, 9, .inl g23)), (h25, .inl (cI, 9, .inl g24)), (h0, .inr (9, [.ref h1, .ref h2, .int a0, .int a1, .int a2, .int a3, .int a4, .int a5, .int a6, .int a7, .long y0, .ref h3, .ref h4, .ref h5, .ref h6, .ref h7, .ref h8, .ref h9, .ref h10, .ref h11, .ref h12, .ref h13, .ref h14, .ref h15, .ref h16, .ref h17, .ref h18, .ref h19, .ref h20, .int a8, .int a9, .int a10, .int a11, .int a12, .ref h21, .ref h22, .ref h23, .int a13, .int a14, .int a15, .int a16, .int a17, .ref h24, .ref h25, .ref h26, .ref h27, .int a18, .int a19, .int a20, .int a21, .int a22, .int a23, .int a24, .ref h28, .ref h29, .ref h30, .int a25, .ref h31, .ref h32, .ref h33, .ref h34, .ref h35, .ref h36, .ref h37, .int a26, .int a27, .ref h38, .ref h39, .ref h40, .ref h41, .ref h42, .ref h43])), (h3, .inl (cI, 2, .inl g2))]) [5, 6, 0, 1, 2, 4, 3] rfl, hD.sub (ws' := [(h8, .inl (cI, 18, .inl g7)), (h9, .inl (cI, 18, .inl g8)), (h13, .inl (cZ, 2, .inl g12)), (h24, .inl (cI, 9, .inl g23)), (h25, .inl (cI, 9, .inl g24)), (h0, .inr (9, [.ref h1, .ref h2, .int a0, .int a1, .int a2, .int a3, .int a4, .int a5, .int a6, .int a7, .long y0, .ref h3, .ref h4, .ref h5, .ref h6, .ref h7, .ref h8, .ref h9, .ref h10, .ref h11, .ref h12, .ref h13, .ref h14, .ref h15, .ref h16, .ref h17, .ref h18, .ref h19, .ref h20, .int a8, .int a9, .int a10, .int a11, .int a12, .ref h21, .ref h22, .ref h23, .int a13, .int a14, .int a15, .int a16, .int a17, .ref h24, .ref h25, .ref h26, .ref h27, .int a18, .int a19, .int a20, .int a21, .int a22, .int a23, .int a24, .ref h28, .ref h29, .ref h30, .int a25, .ref h31, .ref h32, .ref h33, .ref h34, .ref h35, .ref h36, .ref h37, .int a26, .int a27, .ref h38, .ref h39, .ref h40, .ref h41, .ref h42, .ref h43])), (h3, .inl (cI, 2, .inl g2))]) [5, 6, 0, 1, 2, 4, 3] (by decide) rfl, hS, lv_sub hl [0, 1, 2] rfl, (rg_mono hx_546 (by decide) (by decide))⟩ (by show ((9) - x_546.toInt).toNat < ((9) - x_466.toInt).toNat; have ha := h_535; simp only [rg] at ha; omega)
        · skip
          refine lv_aload_n hx hb dX9_firstWrong_63 rfl (lv_at hl 2 rfl) ?_
          have hPc := hP.sub (ws' := [(h0, .inr (9, [.ref h1, .ref h2, .int a0, .int a1, .int a2, .int a3, .int a4, .int a5, .int a6, .int a7, .long y0, .ref h3, .ref h4, .ref h5, .ref h6, .ref h7, .ref h8, .ref h9, .ref h10, .ref h11, .ref h12, .ref h13, .ref h14, .ref h15, .ref h16, .ref h17, .ref h18, .ref h19, .ref h20, .int a8, .int a9, .int a10, .int a11, .int a12, .ref h21, .ref h22, .ref h23, .int a13, .int a14, .int a15, .int a16, .int a17, .ref h24, .ref h25, .ref h26, .ref h27, .int a18, .int a19, .int a20, .int a21, .int a22, .int a23, .int a24, .ref h28, .ref h29, .ref h30, .int a25, .ref h31, .ref h32, .ref h33, .ref h34, .ref h35, .ref h36, .ref h37, .int a26, .int a27, .ref h38, .ref h39, .ref h40, .ref h41, .ref h42, .ref h43])), (h3, .inl (cI, 2, .inl g2)), (h13, .inl (cZ, 2, .inl g12))]) [4, 3, 0] rfl
          have hDc := hD.sub (ws' := [(h0, .inr (9, [.ref h1, .ref h2, .int a0, .int a1, .int a2, .int a3, .int a4, .int a5, .int a6, .int a7, .long y0, .ref h3, .ref h4, .ref h5, .ref h6, .ref h7, .ref h8, .ref h9, .ref h10, .ref h11, .ref h12, .ref h13, .ref h14, .ref h15, .ref h16, .ref h17, .ref h18, .ref h19, .ref h20, .int a8, .int a9, .int a10, .int a11, .int a12, .ref h21, .ref h22, .ref h23, .int a13, .int a14, .int a15, .int a16, .int a17, .ref h24, .ref h25, .ref h26, .ref h27, .int a18, .int a19, .int a20, .int a21, .int a22, .int a23, .int a24, .ref h28, .ref h29, .ref h30, .int a25, .ref h31, .ref h32, .ref h33, .ref h34, .ref h35, .ref h36, .ref h37, .int a26, .int a27, .ref h38, .ref h39, .ref h40, .ref h41, .ref h42, .ref h43])), (h3, .inl (cI, 2, .inl g2)), (h13, .inl (cZ, 2, .inl g12))]) [4, 3, 0] (by decide) rfl
          have hFc := va_free (wc := [(h0, .inr (9, [.ref h1, .ref h2, .int a0, .int a1, .int a2, .int a3, .int a4, .int a5, .int a6, .int a7, .long y0, .ref h3, .ref h4, .ref h5, .ref h6, .ref h7, .ref h8, .ref h9, .ref h10, .ref h11, .ref h12, .ref h13, .ref h14, .ref h15, .ref h16, .ref h17, .ref h18, .ref h19, .ref h20, .int a8, .int a9, .int a10, .int a11, .int a12, .ref h21, .ref h22, .ref h23, .int a13, .int a14, .int a15, .int a16, .int a17, .ref h24, .ref h25, .ref h26, .ref h27, .int a18, .int a19, .int a20, .int a21, .int a22, .int a23, .int a24, .ref h28, .ref h29, .ref h30, .int a25, .ref h31, .ref h32, .ref h33, .ref h34, .ref h35, .ref h36, .ref h37, .int a26, .int a27, .ref h38, .ref h39, .ref h40, .ref h41, .ref h42, .ref h43])), (h3, .inl (cI, 2, .inl g2)), (h13, .inl (cZ, 2, .inl g12))]) hD hS hA [4, 3, 0] rfl
          refine va_calli (va_runV (As := []) (rest := []) ⟨hx, hb, hml, hown, hts⟩ (c_s_X9_isRing l dC dI cB cI cJ cZ cP h0 h1 h2 a0 a1 a2 a3 a4 a5 a6 a7 y0 h3 g2 hg2 h4 h5 h6 h7 h8 h9 h10 h11 h12 h13 g12 hg12 h14 h15 h16 h17 h18 h19 h20 a8 (rg_mono ha8 (by decide) (by decide)) a9 a10 a11 a12 h21 h22 h23 a13 a14 a15 a16 a17 h24 h25 h26 h27 a18 a19 a20 a21 a22 a23 a24 h28 h29 h30 a25 h31 h32 h33 h34 h35 h36 h37 a26 a27 h38 h39 h40 h41 h42 h43 kr1 H.size) (cwV 0 hts (gd_V (List.mem_of_getElem? (i := 9) rfl) (List.mem_of_getElem? (i := 10) rfl) (List.mem_of_getElem? (i := 11) rfl) (List.mem_of_getElem? (i := 4) rfl) (gd_mono k_s_X9_isRing (fun _ h => List.mem_cons_of_mem _ (List.mem_append_right _ (List.mem_append_right _ (List.mem_append_right _ (List.mem_append_right _ (List.mem_append_left _ h)))))))) rfl rfl rfl (by decide +kernel) ⟨Nat.le_of_ble_eq_true rfl, Nat.le_of_ble_eq_true rfl⟩) ⟨fun a U g mk q => by obtain ⟨q0, q1, qP, qK, qD⟩ := q; exact ⟨q0, q1, qP, va_K.moved (u := U) (U := U.calling g mk a) (Vm.Alike.refl U.vm) qK, qD⟩, va_recv hK hPc (ci := 9) (q0 := 0) rfl rfl, fun U hU hW => ⟨rfl, by rw [hU], by rw [hU]; exact hPc, va_K.moved hW.alike hK, hDc.weaken (fun _ _ _ _ => trivial)⟩⟩ rfl rfl hl.1 rfl (lv_room (Nat.le_of_ble_eq_true rfl)) dX9_firstWrong_64 ⟨Nat.le_of_ble_eq_true rfl, Nat.le_of_ble_eq_true rfl⟩) hS (fun q _ h => hFc q h) hFc (fun r_547 u t H1 locs ht hvm hw hB hz1 hk1 hS => ?_)
          obtain ⟨hu9, hw⟩ := hw
          rw [hu9] at hB
          clear hu9
          obtain ⟨k_548, hP1, hD1⟩ := hB
          rw [ht] at hP1
          obtain ⟨hP, hD⟩ := va_join (wr := [(h24, .inl (cI, 9, .inl g23)), (h25, .inl (cI, 9, .inl g24)), (h8, .inl (cI, 18, .inl g7)), (h9, .inl (cI, 18, .inl g8))]) (w1 := [(h0, .inr (9, [.ref h1, .ref h2, .int a0, .int a1, .int a2, .int a3, .int a4, .int a5, .int a6, .int a7, .long y0, .ref h3, .ref h4, .ref h5, .ref h6, .ref h7, .ref h8, .ref h9, .ref h10, .ref h11, .ref h12, .ref h13, .ref h14, .ref h15, .ref h16, .ref h17, .ref h18, .ref h19, .ref h20, .int a8, .int a9, .int a10, .int a11, .int a12, .ref h21, .ref h22, .ref h23, .int a13, .int a14, .int a15, .int a16, .int a17, .ref h24, .ref h25, .ref h26, .ref h27, .int a18, .int a19, .int a20, .int a21, .int a22, .int a23, .int a24, .ref h28, .ref h29, .ref h30, .int a25, .ref h31, .ref h32, .ref h33, .ref h34, .ref h35, .ref h36, .ref h37, .int a26, .int a27, .ref h38, .ref h39, .ref h40, .ref h41, .ref h42, .ref h43])), (h3, .inl (cI, 2, .inl g2)), (h13, .inl (cZ, 2, .inl g12))]) hP hD [4, 3, 0] [1, 2, 5, 6] rfl rfl (by decide) (by decide) hk1 hFc hP1 hD1
          generalize H1 = H at hP hS ⊢
          replace hP : va_P (dC, dI) vwCl [(h24, .inl (cI, 9, .inl g23)), (h25, .inl (cI, 9, .inl g24)), (h8, .inl (cI, 18, .inl g7)), (h9, .inl (cI, 18, .inl g8)), (h0, .inr (9, [.ref h1, .ref h2, .int a0, .int a1, .int a2, .int a3, .int a4, .int a5, .int a6, .int a7, .long y0, .ref h3, .ref h4, .ref h5, .ref h6, .ref h7, .ref h8, .ref h9, .ref h10, .ref h11, .ref h12, .ref h13, .ref h14, .ref h15, .ref h16, .ref h17, .ref h18, .ref h19, .ref h20, .int a8, .int a9, .int a10, .int a11, .int a12, .ref h21, .ref h22, .ref h23, .int a13, .int a14, .int a15, .int a16, .int a17, .ref h24, .ref h25, .ref h26, .ref h27, .int a18, .int a19, .int a20, .int a21, .int a22, .int a23, .int a24, .ref h28, .ref h29, .ref h30, .int a25, .ref h31, .ref h32, .ref h33, .ref h34, .ref h35, .ref h36, .ref h37, .int a26, .int a27, .ref h38, .ref h39, .ref h40, .ref h41, .ref h42, .ref h43])), (h3, .inl (cI, 2, .inl g2)), (h13, .inl (cZ, 2, .inl g12))] H := hP
          replace hD : va_D A [(h24, .inl (cI, 9, .inl g23)), (h25, .inl (cI, 9, .inl g24)), (h8, .inl (cI, 18, .inl g7)), (h9, .inl (cI, 18, .inl g8)), (h0, .inr (9, [.ref h1, .ref h2, .int a0, .int a1, .int a2, .int a3, .int a4, .int a5, .int a6, .int a7, .long y0, .ref h3, .ref h4, .ref h5, .ref h6, .ref h7, .ref h8, .ref h9, .ref h10, .ref h11, .ref h12, .ref h13, .ref h14, .ref h15, .ref h16, .ref h17, .ref h18, .ref h19, .ref h20, .int a8, .int a9, .int a10, .int a11, .int a12, .ref h21, .ref h22, .ref h23, .int a13, .int a14, .int a15, .int a16, .int a17, .ref h24, .ref h25, .ref h26, .ref h27, .int a18, .int a19, .int a20, .int a21, .int a22, .int a23, .int a24, .ref h28, .ref h29, .ref h30, .int a25, .ref h31, .ref h32, .ref h33, .ref h34, .ref h35, .ref h36, .ref h37, .int a26, .int a27, .ref h38, .ref h39, .ref h40, .ref h41, .ref h42, .ref h43])), (h3, .inl (cI, 2, .inl g2)), (h13, .inl (cZ, 2, .inl g12))] := hD
          have hr_547 : rg (0) (1) r_547 := hw
          have k_549 : rg 1 1 r_547 → rg 3 9 r_1 := fun hq => ⟨by rw [k_2]; exact k_548 (rg_eq hq (by decide)), (rg_mono (d := 9) h_537 (Int.le_refl _) (by decide)).2⟩
          refine lv_if_eq (tgt := 91) hx hb dX9_firstWrong_67 (by decide) (fun c_550 => ?_) (fun c_550 => ?_)
          · skip
            have h_551 : rg (0) (0) r_547 := by have ha := hr_547; have hb_ := (rg_k (x := 0) (c := 0) (by decide)); simp only [rg, fa_lt, fa_le, fa_eq, (by decide : (0 : Int32).toInt = 0)] at ha hb_ c_550; simp only [rg]; omega
            obtain ⟨x_552, ex_552⟩ : ∃ y : Int32, y = x_466 + Int32.ofInt (1) := ⟨_, rfl⟩
            have hx_552 : rg (1) (9) x_552 := by rw [ex_552]; exact rg_mono (rg_add h_535 (rg_k (x := Int32.ofInt (1)) (c := 1) (by decide)) (by decide) (by decide)) (by decide) (by decide)
            have qx_552 : x_552.toInt = x_466.toInt + (1) := by rw [ex_552]; exact rg_addE h_535 (rg_k (x := Int32.ofInt (1)) (c := 1) (by decide)) (by decide) (by decide) (by decide)
            refine lv_iinc (v := x_552) (lv' := [(2, .int x_552), (1, .int r_1), (0, .ref h0)]) hx hb dX9_firstWrong_91 hl (k := 0) rfl (ex_552.symm) (by decide) rfl (fun ls hl => ?_)
            clear ex_552
            refine lv_goto (tgt := 7) hx hb dX9_firstWrong_94 (by decide) ?_
            exact ih_533 (x_552) H locs ls ⟨hP.sub (ws' := [(h8, .inl (cI, 18, .inl g7)), (h9, .inl (cI, 18, .inl g8)), (h13, .inl (cZ, 2, .inl g12)), (h24, .inl (cI, 9, .inl g23)), (h25, .inl (cI, 9, .inl g24)), (h0, .inr (9, [.ref h1, .ref h2, .int a0, .int a1, .int a2, .int a3, .int a4, .int a5, .int a6, .int a7, .long y0, .ref h3, .ref h4, .ref h5, .ref h6, .ref h7, .ref h8, .ref h9, .ref h10, .ref h11, .ref h12, .ref h13, .ref h14, .ref h15, .ref h16, .ref h17, .ref h18, .ref h19, .ref h20, .int a8, .int a9, .int a10, .int a11, .int a12, .ref h21, .ref h22, .ref h23, .int a13, .int a14, .int a15, .int a16, .int a17, .ref h24, .ref h25, .ref h26, .ref h27, .int a18, .int a19, .int a20, .int a21, .int a22, .int a23, .int a24, .ref h28, .ref h29, .ref h30, .int a25, .ref h31, .ref h32, .ref h33, .ref h34, .ref h35, .ref h36, .ref h37, .int a26, .int a27, .ref h38, .ref h39, .ref h40, .ref h41, .ref h42, .ref h43])), (h3, .inl (cI, 2, .inl g2))]) [2, 3, 6, 0, 1, 4, 5] rfl, hD.sub (ws' := [(h8, .inl (cI, 18, .inl g7)), (h9, .inl (cI, 18, .inl g8)), (h13, .inl (cZ, 2, .inl g12)), (h24, .inl (cI, 9, .inl g23)), (h25, .inl (cI, 9, .inl g24)), (h0, .inr (9, [.ref h1, .ref h2, .int a0, .int a1, .int a2, .int a3, .int a4, .int a5, .int a6, .int a7, .long y0, .ref h3, .ref h4, .ref h5, .ref h6, .ref h7, .ref h8, .ref h9, .ref h10, .ref h11, .ref h12, .ref h13, .ref h14, .ref h15, .ref h16, .ref h17, .ref h18, .ref h19, .ref h20, .int a8, .int a9, .int a10, .int a11, .int a12, .ref h21, .ref h22, .ref h23, .int a13, .int a14, .int a15, .int a16, .int a17, .ref h24, .ref h25, .ref h26, .ref h27, .int a18, .int a19, .int a20, .int a21, .int a22, .int a23, .int a24, .ref h28, .ref h29, .ref h30, .int a25, .ref h31, .ref h32, .ref h33, .ref h34, .ref h35, .ref h36, .ref h37, .int a26, .int a27, .ref h38, .ref h39, .ref h40, .ref h41, .ref h42, .ref h43])), (h3, .inl (cI, 2, .inl g2))]) [2, 3, 6, 0, 1, 4, 5] (by decide) rfl, hS, lv_sub hl [0, 1, 2] rfl, (rg_mono hx_552 (by decide) (by decide))⟩ (by show ((9) - x_552.toInt).toNat < ((9) - x_466.toInt).toNat; have ha := h_535; simp only [rg] at ha; omega)
          · skip
            have h_553 : rg (1) (1) r_547 := by have ha := hr_547; have hb_ := (rg_k (x := 0) (c := 0) (by decide)); simp only [rg, fa_lt, fa_le, fa_eq, (by decide : (0 : Int32).toInt = 0)] at ha hb_ c_550; simp only [rg]; omega
            have h_554 : rg (3) (9) r_1 := rg_meet h_537 (k_549 (rg_mono h_553 (by decide) (by decide))) (by decide) (by decide)
            have h_555 : rg (3) (9) x_543 := by have ha := hx_543; have hb_ := h_554; have hc_ := c_544; simp only [rg, fa_lt, fa_le, fa_eq] at ha hb_ hc_; simp only [rg]; omega
            have h_556 : rg (2) (8) x_466 := by have ha := h_555; have hb_ := h_535; simp only [rg] at ha hb_ ⊢; omega
            refine lv_aload_n hx hb dX9_firstWrong_70 rfl (lv_at hl 2 rfl) ?_
            refine lv_aload_n hx hb dX9_firstWrong_71 rfl (lv_at hl 2 rfl) ?_
            refine va_get (D := (dC, dI)) (ci := 9) (v := .ref h24) (C := RX9) (T := TX9) (N := 72) hx hb hts hinX9 hown hK hP 4 rfl rfl 42 (by decide) (hts (.fieldLink RX9 89 "MayRingsModel" "row" "[I") (List.mem_of_getElem? (i := 5) rfl)) (fun _ h9 => h9) rfl dX9_firstWrong_72 ?_
            refine lv_iload_n hx hb dX9_firstWrong_75 rfl (lv_at hl 0 rfl) ?_
            refine va_iald hx hb hK hP 0 1 rfl rfl (rg_in (n := 9) (rg_mono h_556 (by decide) (by decide))) dX9_firstWrong_76 ?_
            refine tp_v (.int x_538) (congrArg Value.int (ex_538.symm)) ?_
            refine lv_aload_n hx hb dX9_firstWrong_77 rfl (lv_at hl 2 rfl) ?_
            refine va_get (D := (dC, dI)) (ci := 9) (v := .ref h24) (C := RX9) (T := TX9) (N := 72) hx hb hts hinX9 hown hK hP 4 rfl rfl 42 (by decide) (hts (.fieldLink RX9 89 "MayRingsModel" "row" "[I") (List.mem_of_getElem? (i := 5) rfl)) (fun _ h9 => h9) rfl dX9_firstWrong_78 ?_
            refine lv_iconst (v := 0) hx hb dX9_firstWrong_81 (by decide) ?_
            refine va_iald hx hb hK hP 0 1 rfl rfl (rg_in (n := 9) (rg_mono (rg_k (x := 0) (c := 0) (by decide)) (by decide) (by decide))) dX9_firstWrong_82 ?_
            refine lv_topi (fun x_557 ex_557 => ?_)
            have hx_557 : rg (-1) (9) x_557 := by rw [ex_557]; exact rg_mono (hg23 _) (by decide) (by decide)
            have h_558 : rg 0 8 x_557 := by rw [ex_557]; exact r8_at (p := r_1) (by rw [k_2]; exact kr0) (rg_k (x := 0) (c := 0) (by decide)) (by decide) (by have hg0 := h_554; simp only [rg] at hg0; try simp only [(by decide : (0 : Int32).toInt = 0)]; omega)
            have hPc := hP.sub (ws' := [(h0, .inr (9, [.ref h1, .ref h2, .int a0, .int a1, .int a2, .int a3, .int a4, .int a5, .int a6, .int a7, .long y0, .ref h3, .ref h4, .ref h5, .ref h6, .ref h7, .ref h8, .ref h9, .ref h10, .ref h11, .ref h12, .ref h13, .ref h14, .ref h15, .ref h16, .ref h17, .ref h18, .ref h19, .ref h20, .int a8, .int a9, .int a10, .int a11, .int a12, .ref h21, .ref h22, .ref h23, .int a13, .int a14, .int a15, .int a16, .int a17, .ref h24, .ref h25, .ref h26, .ref h27, .int a18, .int a19, .int a20, .int a21, .int a22, .int a23, .int a24, .ref h28, .ref h29, .ref h30, .int a25, .ref h31, .ref h32, .ref h33, .ref h34, .ref h35, .ref h36, .ref h37, .int a26, .int a27, .ref h38, .ref h39, .ref h40, .ref h41, .ref h42, .ref h43])), (h25, .inl (cI, 9, .inl g24))]) [4, 1] rfl
            have hDc := hD.sub (ws' := [(h0, .inr (9, [.ref h1, .ref h2, .int a0, .int a1, .int a2, .int a3, .int a4, .int a5, .int a6, .int a7, .long y0, .ref h3, .ref h4, .ref h5, .ref h6, .ref h7, .ref h8, .ref h9, .ref h10, .ref h11, .ref h12, .ref h13, .ref h14, .ref h15, .ref h16, .ref h17, .ref h18, .ref h19, .ref h20, .int a8, .int a9, .int a10, .int a11, .int a12, .ref h21, .ref h22, .ref h23, .int a13, .int a14, .int a15, .int a16, .int a17, .ref h24, .ref h25, .ref h26, .ref h27, .int a18, .int a19, .int a20, .int a21, .int a22, .int a23, .int a24, .ref h28, .ref h29, .ref h30, .int a25, .ref h31, .ref h32, .ref h33, .ref h34, .ref h35, .ref h36, .ref h37, .int a26, .int a27, .ref h38, .ref h39, .ref h40, .ref h41, .ref h42, .ref h43])), (h25, .inl (cI, 9, .inl g24))]) [4, 1] (by decide) rfl
            have hFc := va_free (wc := [(h0, .inr (9, [.ref h1, .ref h2, .int a0, .int a1, .int a2, .int a3, .int a4, .int a5, .int a6, .int a7, .long y0, .ref h3, .ref h4, .ref h5, .ref h6, .ref h7, .ref h8, .ref h9, .ref h10, .ref h11, .ref h12, .ref h13, .ref h14, .ref h15, .ref h16, .ref h17, .ref h18, .ref h19, .ref h20, .int a8, .int a9, .int a10, .int a11, .int a12, .ref h21, .ref h22, .ref h23, .int a13, .int a14, .int a15, .int a16, .int a17, .ref h24, .ref h25, .ref h26, .ref h27, .int a18, .int a19, .int a20, .int a21, .int a22, .int a23, .int a24, .ref h28, .ref h29, .ref h30, .int a25, .ref h31, .ref h32, .ref h33, .ref h34, .ref h35, .ref h36, .ref h37, .int a26, .int a27, .ref h38, .ref h39, .ref h40, .ref h41, .ref h42, .ref h43])), (h25, .inl (cI, 9, .inl g24))]) hD hS hA [4, 1] rfl
            refine va_calli (va_runV (As := [.int x_538, .int x_557]) (rest := []) ⟨hx, hb, hml, hown, hts⟩ (c_s_X9_isLet l dC dI cB cI cJ cZ cP h0 h1 h2 a0 a1 a2 a3 a4 a5 a6 a7 y0 h3 h4 h5 h6 h7 h8 h9 h10 h11 h12 h13 h14 h15 h16 h17 h18 h19 h20 a8 a9 a10 a11 a12 h21 h22 h23 a13 a14 a15 a16 a17 h24 h25 g24 h26 h27 a18 a19 a20 a21 a22 a23 a24 h28 h29 h30 a25 h31 h32 h33 h34 h35 h36 h37 a26 a27 h38 h39 h40 h41 h42 h43 x_538 (rg_mono h_539 (by decide) (by decide)) x_557 H.size) (cwV 2 hts (gd_V (List.mem_of_getElem? (i := 12) rfl) (List.mem_of_getElem? (i := 13) rfl) (List.mem_of_getElem? (i := 14) rfl) (List.mem_of_getElem? (i := 4) rfl) (gd_mono k_s_X9_isLet (fun _ h => List.mem_cons_of_mem _ (List.mem_append_right _ (List.mem_append_right _ (List.mem_append_right _ (List.mem_append_right _ (List.mem_append_right _ (List.mem_append_left _ h))))))))) rfl rfl rfl (by decide +kernel) ⟨Nat.le_of_ble_eq_true rfl, Nat.le_of_ble_eq_true rfl⟩) ⟨fun a U g mk q => by obtain ⟨q0, q1, qP, qK, qD⟩ := q; exact ⟨q0, q1, qP, va_K.moved (u := U) (U := U.calling g mk a) (Vm.Alike.refl U.vm) qK, qD⟩, va_recv hK hPc (ci := 9) (q0 := 0) rfl rfl, fun U hU hW => ⟨rfl, by rw [hU], by rw [hU]; exact hPc, va_K.moved hW.alike hK, hDc.weaken (fun _ _ _ _ => trivial)⟩⟩ rfl rfl hl.1 rfl (lv_room (Nat.le_of_ble_eq_true rfl)) dX9_firstWrong_83 ⟨Nat.le_of_ble_eq_true rfl, Nat.le_of_ble_eq_true rfl⟩) hS (fun q _ h => hFc q h) hFc (fun r_559 u t H1 locs ht hvm hw hB hz1 hk1 hS => ?_)
            obtain ⟨hP1, hD1⟩ := hB
            rw [ht] at hP1
            obtain ⟨hP, hD⟩ := va_join (wr := [(h24, .inl (cI, 9, .inl g23)), (h8, .inl (cI, 18, .inl g7)), (h9, .inl (cI, 18, .inl g8)), (h3, .inl (cI, 2, .inl g2)), (h13, .inl (cZ, 2, .inl g12))]) (w1 := [(h0, .inr (9, [.ref h1, .ref h2, .int a0, .int a1, .int a2, .int a3, .int a4, .int a5, .int a6, .int a7, .long y0, .ref h3, .ref h4, .ref h5, .ref h6, .ref h7, .ref h8, .ref h9, .ref h10, .ref h11, .ref h12, .ref h13, .ref h14, .ref h15, .ref h16, .ref h17, .ref h18, .ref h19, .ref h20, .int a8, .int a9, .int a10, .int a11, .int a12, .ref h21, .ref h22, .ref h23, .int a13, .int a14, .int a15, .int a16, .int a17, .ref h24, .ref h25, .ref h26, .ref h27, .int a18, .int a19, .int a20, .int a21, .int a22, .int a23, .int a24, .ref h28, .ref h29, .ref h30, .int a25, .ref h31, .ref h32, .ref h33, .ref h34, .ref h35, .ref h36, .ref h37, .int a26, .int a27, .ref h38, .ref h39, .ref h40, .ref h41, .ref h42, .ref h43])), (h25, .inl (cI, 9, .inl g24))]) hP hD [4, 1] [0, 2, 3, 5, 6] rfl rfl (by decide) (by decide) hk1 hFc hP1 hD1
            generalize H1 = H at hP hS ⊢
            replace hP : va_P (dC, dI) vwCl [(h24, .inl (cI, 9, .inl g23)), (h8, .inl (cI, 18, .inl g7)), (h9, .inl (cI, 18, .inl g8)), (h3, .inl (cI, 2, .inl g2)), (h13, .inl (cZ, 2, .inl g12)), (h0, .inr (9, [.ref h1, .ref h2, .int a0, .int a1, .int a2, .int a3, .int a4, .int a5, .int a6, .int a7, .long y0, .ref h3, .ref h4, .ref h5, .ref h6, .ref h7, .ref h8, .ref h9, .ref h10, .ref h11, .ref h12, .ref h13, .ref h14, .ref h15, .ref h16, .ref h17, .ref h18, .ref h19, .ref h20, .int a8, .int a9, .int a10, .int a11, .int a12, .ref h21, .ref h22, .ref h23, .int a13, .int a14, .int a15, .int a16, .int a17, .ref h24, .ref h25, .ref h26, .ref h27, .int a18, .int a19, .int a20, .int a21, .int a22, .int a23, .int a24, .ref h28, .ref h29, .ref h30, .int a25, .ref h31, .ref h32, .ref h33, .ref h34, .ref h35, .ref h36, .ref h37, .int a26, .int a27, .ref h38, .ref h39, .ref h40, .ref h41, .ref h42, .ref h43])), (h25, .inl (cI, 9, .inl g24))] H := hP
            replace hD : va_D A [(h24, .inl (cI, 9, .inl g23)), (h8, .inl (cI, 18, .inl g7)), (h9, .inl (cI, 18, .inl g8)), (h3, .inl (cI, 2, .inl g2)), (h13, .inl (cZ, 2, .inl g12)), (h0, .inr (9, [.ref h1, .ref h2, .int a0, .int a1, .int a2, .int a3, .int a4, .int a5, .int a6, .int a7, .long y0, .ref h3, .ref h4, .ref h5, .ref h6, .ref h7, .ref h8, .ref h9, .ref h10, .ref h11, .ref h12, .ref h13, .ref h14, .ref h15, .ref h16, .ref h17, .ref h18, .ref h19, .ref h20, .int a8, .int a9, .int a10, .int a11, .int a12, .ref h21, .ref h22, .ref h23, .int a13, .int a14, .int a15, .int a16, .int a17, .ref h24, .ref h25, .ref h26, .ref h27, .int a18, .int a19, .int a20, .int a21, .int a22, .int a23, .int a24, .ref h28, .ref h29, .ref h30, .int a25, .ref h31, .ref h32, .ref h33, .ref h34, .ref h35, .ref h36, .ref h37, .int a26, .int a27, .ref h38, .ref h39, .ref h40, .ref h41, .ref h42, .ref h43])), (h25, .inl (cI, 9, .inl g24))] := hD
            have hr_559 : rg (0) (1) r_559 := hw
            refine lv_if_ne (tgt := 91) hx hb dX9_firstWrong_86 (by decide) (fun c_560 => ?_) (fun c_560 => ?_)
            · skip
              have h_561 : rg (1) (1) r_559 := by have ha := hr_559; have hb_ := (rg_k (x := 0) (c := 0) (by decide)); simp only [rg, fa_lt, fa_le, fa_eq, (by decide : (0 : Int32).toInt = 0)] at ha hb_ c_560; simp only [rg]; omega
              obtain ⟨x_562, ex_562⟩ : ∃ y : Int32, y = x_466 + Int32.ofInt (1) := ⟨_, rfl⟩
              have hx_562 : rg (3) (9) x_562 := by rw [ex_562]; exact rg_mono (rg_add h_556 (rg_k (x := Int32.ofInt (1)) (c := 1) (by decide)) (by decide) (by decide)) (by decide) (by decide)
              have qx_562 : x_562.toInt = x_466.toInt + (1) := by rw [ex_562]; exact rg_addE h_556 (rg_k (x := Int32.ofInt (1)) (c := 1) (by decide)) (by decide) (by decide) (by decide)
              refine lv_iinc (v := x_562) (lv' := [(2, .int x_562), (1, .int r_1), (0, .ref h0)]) hx hb dX9_firstWrong_91 hl (k := 0) rfl (ex_562.symm) (by decide) rfl (fun ls hl => ?_)
              clear ex_562
              refine lv_goto (tgt := 7) hx hb dX9_firstWrong_94 (by decide) ?_
              exact ih_533 (x_562) H locs ls ⟨hP.sub (ws' := [(h8, .inl (cI, 18, .inl g7)), (h9, .inl (cI, 18, .inl g8)), (h13, .inl (cZ, 2, .inl g12)), (h24, .inl (cI, 9, .inl g23)), (h25, .inl (cI, 9, .inl g24)), (h0, .inr (9, [.ref h1, .ref h2, .int a0, .int a1, .int a2, .int a3, .int a4, .int a5, .int a6, .int a7, .long y0, .ref h3, .ref h4, .ref h5, .ref h6, .ref h7, .ref h8, .ref h9, .ref h10, .ref h11, .ref h12, .ref h13, .ref h14, .ref h15, .ref h16, .ref h17, .ref h18, .ref h19, .ref h20, .int a8, .int a9, .int a10, .int a11, .int a12, .ref h21, .ref h22, .ref h23, .int a13, .int a14, .int a15, .int a16, .int a17, .ref h24, .ref h25, .ref h26, .ref h27, .int a18, .int a19, .int a20, .int a21, .int a22, .int a23, .int a24, .ref h28, .ref h29, .ref h30, .int a25, .ref h31, .ref h32, .ref h33, .ref h34, .ref h35, .ref h36, .ref h37, .int a26, .int a27, .ref h38, .ref h39, .ref h40, .ref h41, .ref h42, .ref h43])), (h3, .inl (cI, 2, .inl g2))]) [1, 2, 4, 0, 6, 5, 3] rfl, hD.sub (ws' := [(h8, .inl (cI, 18, .inl g7)), (h9, .inl (cI, 18, .inl g8)), (h13, .inl (cZ, 2, .inl g12)), (h24, .inl (cI, 9, .inl g23)), (h25, .inl (cI, 9, .inl g24)), (h0, .inr (9, [.ref h1, .ref h2, .int a0, .int a1, .int a2, .int a3, .int a4, .int a5, .int a6, .int a7, .long y0, .ref h3, .ref h4, .ref h5, .ref h6, .ref h7, .ref h8, .ref h9, .ref h10, .ref h11, .ref h12, .ref h13, .ref h14, .ref h15, .ref h16, .ref h17, .ref h18, .ref h19, .ref h20, .int a8, .int a9, .int a10, .int a11, .int a12, .ref h21, .ref h22, .ref h23, .int a13, .int a14, .int a15, .int a16, .int a17, .ref h24, .ref h25, .ref h26, .ref h27, .int a18, .int a19, .int a20, .int a21, .int a22, .int a23, .int a24, .ref h28, .ref h29, .ref h30, .int a25, .ref h31, .ref h32, .ref h33, .ref h34, .ref h35, .ref h36, .ref h37, .int a26, .int a27, .ref h38, .ref h39, .ref h40, .ref h41, .ref h42, .ref h43])), (h3, .inl (cI, 2, .inl g2))]) [1, 2, 4, 0, 6, 5, 3] (by decide) rfl, hS, lv_sub hl [0, 1, 2] rfl, (rg_mono hx_562 (by decide) (by decide))⟩ (by show ((9) - x_562.toInt).toNat < ((9) - x_466.toInt).toNat; have ha := h_556; simp only [rg] at ha; omega)
            · skip
              have h_563 : rg (0) (0) r_559 := by have ha := hr_559; have hb_ := (rg_k (x := 0) (c := 0) (by decide)); simp only [rg, fa_lt, fa_le, fa_eq, (by decide : (0 : Int32).toInt = 0)] at ha hb_ c_560; simp only [rg]; omega
              refine lv_iload_n hx hb dX9_firstWrong_89 rfl (lv_at hl 0 rfl) ?_
              have hP9 := hP.sub (ws' := [(h0, .inr (9, [.ref h1, .ref h2, .int a0, .int a1, .int a2, .int a3, .int a4, .int a5, .int a6, .int a7, .long y0, .ref h3, .ref h4, .ref h5, .ref h6, .ref h7, .ref h8, .ref h9, .ref h10, .ref h11, .ref h12, .ref h13, .ref h14, .ref h15, .ref h16, .ref h17, .ref h18, .ref h19, .ref h20, .int a8, .int a9, .int a10, .int a11, .int a12, .ref h21, .ref h22, .ref h23, .int a13, .int a14, .int a15, .int a16, .int a17, .ref h24, .ref h25, .ref h26, .ref h27, .int a18, .int a19, .int a20, .int a21, .int a22, .int a23, .int a24, .ref h28, .ref h29, .ref h30, .int a25, .ref h31, .ref h32, .ref h33, .ref h34, .ref h35, .ref h36, .ref h37, .int a26, .int a27, .ref h38, .ref h39, .ref h40, .ref h41, .ref h42, .ref h43])), (h3, .inl (cI, 2, .inl g2)), (h8, .inl (cI, 18, .inl g7)), (h9, .inl (cI, 18, .inl g8)), (h13, .inl (cZ, 2, .inl g12)), (h24, .inl (cI, 9, .inl g23)), (h25, .inl (cI, 9, .inl g24))]) [5, 3, 1, 2, 4, 0, 6] rfl
              have hD9 := hD.sub (ws' := [(h0, .inr (9, [.ref h1, .ref h2, .int a0, .int a1, .int a2, .int a3, .int a4, .int a5, .int a6, .int a7, .long y0, .ref h3, .ref h4, .ref h5, .ref h6, .ref h7, .ref h8, .ref h9, .ref h10, .ref h11, .ref h12, .ref h13, .ref h14, .ref h15, .ref h16, .ref h17, .ref h18, .ref h19, .ref h20, .int a8, .int a9, .int a10, .int a11, .int a12, .ref h21, .ref h22, .ref h23, .int a13, .int a14, .int a15, .int a16, .int a17, .ref h24, .ref h25, .ref h26, .ref h27, .int a18, .int a19, .int a20, .int a21, .int a22, .int a23, .int a24, .ref h28, .ref h29, .ref h30, .int a25, .ref h31, .ref h32, .ref h33, .ref h34, .ref h35, .ref h36, .ref h37, .int a26, .int a27, .ref h38, .ref h39, .ref h40, .ref h41, .ref h42, .ref h43])), (h3, .inl (cI, 2, .inl g2)), (h8, .inl (cI, 18, .inl g7)), (h9, .inl (cI, 18, .inl g8)), (h13, .inl (cZ, 2, .inl g12)), (h24, .inl (cI, 9, .inl g23)), (h25, .inl (cI, 9, .inl g24))]) [5, 3, 1, 2, 4, 0, 6] (by decide) rfl
              exact W.iret (v := x_466) hx hb hr (fun t ht hW => ⟨⟨x_466, (), rfl, (rg_mono h_556 (by decide) (by decide)), ⟨by rw [ht]; exact hP9, hD9⟩⟩, hS.F ht⟩) hS.2.2 dX9_firstWrong_90
      · skip
        have h_564 : rg (1) (8) x_543 := by have ha := hx_543; have hb_ := h_537; simp only [rg, fa_lt, fa_le, fa_eq] at ha hb_ c_544; simp only [rg]; omega
        have h_565 : rg (0) (7) x_466 := by have ha := h_564; have hb_ := h_535; simp only [rg] at ha hb_ ⊢; omega
        have h_566 : rg (2) (9) r_1 := by have ha := h_564; have hb_ := h_537; have hc_ := c_544; simp only [rg, fa_lt, fa_le, fa_eq] at ha hb_ hc_; simp only [rg]; omega
        have h_567 : rg (2) (9) r_1 := by have ha := hx_543; have hb_ := h_537; simp only [rg, fa_lt, fa_le, fa_eq] at ha hb_ c_544; simp only [rg]; omega
        refine lv_aload_n hx hb dX9_firstWrong_35 rfl (lv_at hl 2 rfl) ?_
        refine lv_aload_n hx hb dX9_firstWrong_36 rfl (lv_at hl 2 rfl) ?_
        refine va_get (D := (dC, dI)) (ci := 9) (v := .ref h24) (C := RX9) (T := TX9) (N := 72) hx hb hts hinX9 hown hK hP 4 rfl rfl 42 (by decide) (hts (.fieldLink RX9 89 "MayRingsModel" "row" "[I") (List.mem_of_getElem? (i := 5) rfl)) (fun _ h9 => h9) rfl dX9_firstWrong_37 ?_
        refine lv_iload_n hx hb dX9_firstWrong_40 rfl (lv_at hl 0 rfl) ?_
        refine va_iald hx hb hK hP 1 1 rfl rfl (rg_in (n := 9) (rg_mono h_565 (by decide) (by decide))) dX9_firstWrong_41 ?_
        refine tp_v (.int x_538) (congrArg Value.int (ex_538.symm)) ?_
        refine lv_aload_n hx hb dX9_firstWrong_42 rfl (lv_at hl 2 rfl) ?_
        refine va_get (D := (dC, dI)) (ci := 9) (v := .ref h24) (C := RX9) (T := TX9) (N := 72) hx hb hts hinX9 hown hK hP 4 rfl rfl 42 (by decide) (hts (.fieldLink RX9 89 "MayRingsModel" "row" "[I") (List.mem_of_getElem? (i := 5) rfl)) (fun _ h9 => h9) rfl dX9_firstWrong_43 ?_
        refine lv_iload_n hx hb dX9_firstWrong_46 rfl (lv_at hl 0 rfl) ?_
        refine lv_iconst (v := 1) hx hb dX9_firstWrong_47 (by decide) ?_
        refine lv_iadd hx hb dX9_firstWrong_48 ?_
        refine tp_v (.int x_543) (congrArg Value.int (ex_543.symm)) ?_
        refine va_iald hx hb hK hP 1 1 rfl rfl (rg_in (n := 9) (rg_mono h_564 (by decide) (by decide))) dX9_firstWrong_49 ?_
        refine lv_topi (fun x_568 ex_568 => ?_)
        have hx_568 : rg (-1) (9) x_568 := by rw [ex_568]; exact rg_mono (hg23 _) (by decide) (by decide)
        have h_569 : rg 0 8 x_568 := by rw [ex_568]; exact r8_at (p := r_1) (by rw [k_2]; exact kr0) h_564 (by decide) (by have h9 := c_544; simp only [fa_lt, fa_le, fa_eq] at h9; omega)
        have hPc := hP.sub (ws' := [(h0, .inr (9, [.ref h1, .ref h2, .int a0, .int a1, .int a2, .int a3, .int a4, .int a5, .int a6, .int a7, .long y0, .ref h3, .ref h4, .ref h5, .ref h6, .ref h7, .ref h8, .ref h9, .ref h10, .ref h11, .ref h12, .ref h13, .ref h14, .ref h15, .ref h16, .ref h17, .ref h18, .ref h19, .ref h20, .int a8, .int a9, .int a10, .int a11, .int a12, .ref h21, .ref h22, .ref h23, .int a13, .int a14, .int a15, .int a16, .int a17, .ref h24, .ref h25, .ref h26, .ref h27, .int a18, .int a19, .int a20, .int a21, .int a22, .int a23, .int a24, .ref h28, .ref h29, .ref h30, .int a25, .ref h31, .ref h32, .ref h33, .ref h34, .ref h35, .ref h36, .ref h37, .int a26, .int a27, .ref h38, .ref h39, .ref h40, .ref h41, .ref h42, .ref h43])), (h25, .inl (cI, 9, .inl g24))]) [4, 2] rfl
        have hDc := hD.sub (ws' := [(h0, .inr (9, [.ref h1, .ref h2, .int a0, .int a1, .int a2, .int a3, .int a4, .int a5, .int a6, .int a7, .long y0, .ref h3, .ref h4, .ref h5, .ref h6, .ref h7, .ref h8, .ref h9, .ref h10, .ref h11, .ref h12, .ref h13, .ref h14, .ref h15, .ref h16, .ref h17, .ref h18, .ref h19, .ref h20, .int a8, .int a9, .int a10, .int a11, .int a12, .ref h21, .ref h22, .ref h23, .int a13, .int a14, .int a15, .int a16, .int a17, .ref h24, .ref h25, .ref h26, .ref h27, .int a18, .int a19, .int a20, .int a21, .int a22, .int a23, .int a24, .ref h28, .ref h29, .ref h30, .int a25, .ref h31, .ref h32, .ref h33, .ref h34, .ref h35, .ref h36, .ref h37, .int a26, .int a27, .ref h38, .ref h39, .ref h40, .ref h41, .ref h42, .ref h43])), (h25, .inl (cI, 9, .inl g24))]) [4, 2] (by decide) rfl
        have hFc := va_free (wc := [(h0, .inr (9, [.ref h1, .ref h2, .int a0, .int a1, .int a2, .int a3, .int a4, .int a5, .int a6, .int a7, .long y0, .ref h3, .ref h4, .ref h5, .ref h6, .ref h7, .ref h8, .ref h9, .ref h10, .ref h11, .ref h12, .ref h13, .ref h14, .ref h15, .ref h16, .ref h17, .ref h18, .ref h19, .ref h20, .int a8, .int a9, .int a10, .int a11, .int a12, .ref h21, .ref h22, .ref h23, .int a13, .int a14, .int a15, .int a16, .int a17, .ref h24, .ref h25, .ref h26, .ref h27, .int a18, .int a19, .int a20, .int a21, .int a22, .int a23, .int a24, .ref h28, .ref h29, .ref h30, .int a25, .ref h31, .ref h32, .ref h33, .ref h34, .ref h35, .ref h36, .ref h37, .int a26, .int a27, .ref h38, .ref h39, .ref h40, .ref h41, .ref h42, .ref h43])), (h25, .inl (cI, 9, .inl g24))]) hD hS hA [4, 2] rfl
        refine va_calli (va_runV (As := [.int x_538, .int x_568]) (rest := []) ⟨hx, hb, hml, hown, hts⟩ (c_s_X9_isLet l dC dI cB cI cJ cZ cP h0 h1 h2 a0 a1 a2 a3 a4 a5 a6 a7 y0 h3 h4 h5 h6 h7 h8 h9 h10 h11 h12 h13 h14 h15 h16 h17 h18 h19 h20 a8 a9 a10 a11 a12 h21 h22 h23 a13 a14 a15 a16 a17 h24 h25 g24 h26 h27 a18 a19 a20 a21 a22 a23 a24 h28 h29 h30 a25 h31 h32 h33 h34 h35 h36 h37 a26 a27 h38 h39 h40 h41 h42 h43 x_538 (rg_mono h_539 (by decide) (by decide)) x_568 H.size) (cwV 2 hts (gd_V (List.mem_of_getElem? (i := 12) rfl) (List.mem_of_getElem? (i := 13) rfl) (List.mem_of_getElem? (i := 14) rfl) (List.mem_of_getElem? (i := 4) rfl) (gd_mono k_s_X9_isLet (fun _ h => List.mem_cons_of_mem _ (List.mem_append_right _ (List.mem_append_right _ (List.mem_append_right _ (List.mem_append_right _ (List.mem_append_right _ (List.mem_append_left _ h))))))))) rfl rfl rfl (by decide +kernel) ⟨Nat.le_of_ble_eq_true rfl, Nat.le_of_ble_eq_true rfl⟩) ⟨fun a U g mk q => by obtain ⟨q0, q1, qP, qK, qD⟩ := q; exact ⟨q0, q1, qP, va_K.moved (u := U) (U := U.calling g mk a) (Vm.Alike.refl U.vm) qK, qD⟩, va_recv hK hPc (ci := 9) (q0 := 0) rfl rfl, fun U hU hW => ⟨rfl, by rw [hU], by rw [hU]; exact hPc, va_K.moved hW.alike hK, hDc.weaken (fun _ _ _ _ => trivial)⟩⟩ rfl rfl hl.1 rfl (lv_room (Nat.le_of_ble_eq_true rfl)) dX9_firstWrong_50 ⟨Nat.le_of_ble_eq_true rfl, Nat.le_of_ble_eq_true rfl⟩) hS (fun q _ h => hFc q h) hFc (fun r_570 u t H1 locs ht hvm hw hB hz1 hk1 hS => ?_)
        obtain ⟨hP1, hD1⟩ := hB
        rw [ht] at hP1
        obtain ⟨hP, hD⟩ := va_join (wr := [(h13, .inl (cZ, 2, .inl g12)), (h24, .inl (cI, 9, .inl g23)), (h3, .inl (cI, 2, .inl g2)), (h8, .inl (cI, 18, .inl g7)), (h9, .inl (cI, 18, .inl g8))]) (w1 := [(h0, .inr (9, [.ref h1, .ref h2, .int a0, .int a1, .int a2, .int a3, .int a4, .int a5, .int a6, .int a7, .long y0, .ref h3, .ref h4, .ref h5, .ref h6, .ref h7, .ref h8, .ref h9, .ref h10, .ref h11, .ref h12, .ref h13, .ref h14, .ref h15, .ref h16, .ref h17, .ref h18, .ref h19, .ref h20, .int a8, .int a9, .int a10, .int a11, .int a12, .ref h21, .ref h22, .ref h23, .int a13, .int a14, .int a15, .int a16, .int a17, .ref h24, .ref h25, .ref h26, .ref h27, .int a18, .int a19, .int a20, .int a21, .int a22, .int a23, .int a24, .ref h28, .ref h29, .ref h30, .int a25, .ref h31, .ref h32, .ref h33, .ref h34, .ref h35, .ref h36, .ref h37, .int a26, .int a27, .ref h38, .ref h39, .ref h40, .ref h41, .ref h42, .ref h43])), (h25, .inl (cI, 9, .inl g24))]) hP hD [4, 2] [0, 1, 3, 5, 6] rfl rfl (by decide) (by decide) hk1 hFc hP1 hD1
        generalize H1 = H at hP hS ⊢
        replace hP : va_P (dC, dI) vwCl [(h13, .inl (cZ, 2, .inl g12)), (h24, .inl (cI, 9, .inl g23)), (h3, .inl (cI, 2, .inl g2)), (h8, .inl (cI, 18, .inl g7)), (h9, .inl (cI, 18, .inl g8)), (h0, .inr (9, [.ref h1, .ref h2, .int a0, .int a1, .int a2, .int a3, .int a4, .int a5, .int a6, .int a7, .long y0, .ref h3, .ref h4, .ref h5, .ref h6, .ref h7, .ref h8, .ref h9, .ref h10, .ref h11, .ref h12, .ref h13, .ref h14, .ref h15, .ref h16, .ref h17, .ref h18, .ref h19, .ref h20, .int a8, .int a9, .int a10, .int a11, .int a12, .ref h21, .ref h22, .ref h23, .int a13, .int a14, .int a15, .int a16, .int a17, .ref h24, .ref h25, .ref h26, .ref h27, .int a18, .int a19, .int a20, .int a21, .int a22, .int a23, .int a24, .ref h28, .ref h29, .ref h30, .int a25, .ref h31, .ref h32, .ref h33, .ref h34, .ref h35, .ref h36, .ref h37, .int a26, .int a27, .ref h38, .ref h39, .ref h40, .ref h41, .ref h42, .ref h43])), (h25, .inl (cI, 9, .inl g24))] H := hP
        replace hD : va_D A [(h13, .inl (cZ, 2, .inl g12)), (h24, .inl (cI, 9, .inl g23)), (h3, .inl (cI, 2, .inl g2)), (h8, .inl (cI, 18, .inl g7)), (h9, .inl (cI, 18, .inl g8)), (h0, .inr (9, [.ref h1, .ref h2, .int a0, .int a1, .int a2, .int a3, .int a4, .int a5, .int a6, .int a7, .long y0, .ref h3, .ref h4, .ref h5, .ref h6, .ref h7, .ref h8, .ref h9, .ref h10, .ref h11, .ref h12, .ref h13, .ref h14, .ref h15, .ref h16, .ref h17, .ref h18, .ref h19, .ref h20, .int a8, .int a9, .int a10, .int a11, .int a12, .ref h21, .ref h22, .ref h23, .int a13, .int a14, .int a15, .int a16, .int a17, .ref h24, .ref h25, .ref h26, .ref h27, .int a18, .int a19, .int a20, .int a21, .int a22, .int a23, .int a24, .ref h28, .ref h29, .ref h30, .int a25, .ref h31, .ref h32, .ref h33, .ref h34, .ref h35, .ref h36, .ref h37, .int a26, .int a27, .ref h38, .ref h39, .ref h40, .ref h41, .ref h42, .ref h43])), (h25, .inl (cI, 9, .inl g24))] := hD
        have hr_570 : rg (0) (1) r_570 := hw
        refine lv_if_eq (tgt := 89) hx hb dX9_firstWrong_53 (by decide) (fun c_571 => ?_) (fun c_571 => ?_)
        · skip
          have h_572 : rg (0) (0) r_570 := by have ha := hr_570; have hb_ := (rg_k (x := 0) (c := 0) (by decide)); simp only [rg, fa_lt, fa_le, fa_eq, (by decide : (0 : Int32).toInt = 0)] at ha hb_ c_571; simp only [rg]; omega
          refine lv_iload_n hx hb dX9_firstWrong_89 rfl (lv_at hl 0 rfl) ?_
          have hP9 := hP.sub (ws' := [(h0, .inr (9, [.ref h1, .ref h2, .int a0, .int a1, .int a2, .int a3, .int a4, .int a5, .int a6, .int a7, .long y0, .ref h3, .ref h4, .ref h5, .ref h6, .ref h7, .ref h8, .ref h9, .ref h10, .ref h11, .ref h12, .ref h13, .ref h14, .ref h15, .ref h16, .ref h17, .ref h18, .ref h19, .ref h20, .int a8, .int a9, .int a10, .int a11, .int a12, .ref h21, .ref h22, .ref h23, .int a13, .int a14, .int a15, .int a16, .int a17, .ref h24, .ref h25, .ref h26, .ref h27, .int a18, .int a19, .int a20, .int a21, .int a22, .int a23, .int a24, .ref h28, .ref h29, .ref h30, .int a25, .ref h31, .ref h32, .ref h33, .ref h34, .ref h35, .ref h36, .ref h37, .int a26, .int a27, .ref h38, .ref h39, .ref h40, .ref h41, .ref h42, .ref h43])), (h3, .inl (cI, 2, .inl g2)), (h8, .inl (cI, 18, .inl g7)), (h9, .inl (cI, 18, .inl g8)), (h13, .inl (cZ, 2, .inl g12)), (h24, .inl (cI, 9, .inl g23)), (h25, .inl (cI, 9, .inl g24))]) [5, 2, 3, 4, 0, 1, 6] rfl
          have hD9 := hD.sub (ws' := [(h0, .inr (9, [.ref h1, .ref h2, .int a0, .int a1, .int a2, .int a3, .int a4, .int a5, .int a6, .int a7, .long y0, .ref h3, .ref h4, .ref h5, .ref h6, .ref h7, .ref h8, .ref h9, .ref h10, .ref h11, .ref h12, .ref h13, .ref h14, .ref h15, .ref h16, .ref h17, .ref h18, .ref h19, .ref h20, .int a8, .int a9, .int a10, .int a11, .int a12, .ref h21, .ref h22, .ref h23, .int a13, .int a14, .int a15, .int a16, .int a17, .ref h24, .ref h25, .ref h26, .ref h27, .int a18, .int a19, .int a20, .int a21, .int a22, .int a23, .int a24, .ref h28, .ref h29, .ref h30, .int a25, .ref h31, .ref h32, .ref h33, .ref h34, .ref h35, .ref h36, .ref h37, .int a26, .int a27, .ref h38, .ref h39, .ref h40, .ref h41, .ref h42, .ref h43])), (h3, .inl (cI, 2, .inl g2)), (h8, .inl (cI, 18, .inl g7)), (h9, .inl (cI, 18, .inl g8)), (h13, .inl (cZ, 2, .inl g12)), (h24, .inl (cI, 9, .inl g23)), (h25, .inl (cI, 9, .inl g24))]) [5, 2, 3, 4, 0, 1, 6] (by decide) rfl
          exact W.iret (v := x_466) hx hb hr (fun t ht hW => ⟨⟨x_466, (), rfl, (rg_mono h_565 (by decide) (by decide)), ⟨by rw [ht]; exact hP9, hD9⟩⟩, hS.F ht⟩) hS.2.2 dX9_firstWrong_90
        · skip
          have h_573 : rg (1) (1) r_570 := by have ha := hr_570; have hb_ := (rg_k (x := 0) (c := 0) (by decide)); simp only [rg, fa_lt, fa_le, fa_eq, (by decide : (0 : Int32).toInt = 0)] at ha hb_ c_571; simp only [rg]; omega
          refine lv_iload_n hx hb dX9_firstWrong_56 rfl (lv_at hl 0 rfl) ?_
          refine lv_iconst (v := 1) hx hb dX9_firstWrong_57 (by decide) ?_
          refine lv_iadd hx hb dX9_firstWrong_58 ?_
          refine tp_v (.int x_543) (congrArg Value.int (ex_543.symm)) ?_
          refine lv_iload_n hx hb dX9_firstWrong_59 rfl (lv_at hl 1 rfl) ?_
          refine lv_icmp_ne (tgt := 91) hx hb dX9_firstWrong_60 (by decide) (fun c_574 => ?_) (fun c_574 => ?_)
          · skip
            obtain ⟨x_575, ex_575⟩ : ∃ y : Int32, y = x_466 + Int32.ofInt (1) := ⟨_, rfl⟩
            have hx_575 : rg (1) (8) x_575 := by rw [ex_575]; exact rg_mono (rg_add h_565 (rg_k (x := Int32.ofInt (1)) (c := 1) (by decide)) (by decide) (by decide)) (by decide) (by decide)
            have qx_575 : x_575.toInt = x_466.toInt + (1) := by rw [ex_575]; exact rg_addE h_565 (rg_k (x := Int32.ofInt (1)) (c := 1) (by decide)) (by decide) (by decide) (by decide)
            refine lv_iinc (v := x_575) (lv' := [(2, .int x_575), (1, .int r_1), (0, .ref h0)]) hx hb dX9_firstWrong_91 hl (k := 0) rfl (ex_575.symm) (by decide) rfl (fun ls hl => ?_)
            clear ex_575
            refine lv_goto (tgt := 7) hx hb dX9_firstWrong_94 (by decide) ?_
            exact ih_533 (x_575) H locs ls ⟨hP.sub (ws' := [(h8, .inl (cI, 18, .inl g7)), (h9, .inl (cI, 18, .inl g8)), (h13, .inl (cZ, 2, .inl g12)), (h24, .inl (cI, 9, .inl g23)), (h25, .inl (cI, 9, .inl g24)), (h0, .inr (9, [.ref h1, .ref h2, .int a0, .int a1, .int a2, .int a3, .int a4, .int a5, .int a6, .int a7, .long y0, .ref h3, .ref h4, .ref h5, .ref h6, .ref h7, .ref h8, .ref h9, .ref h10, .ref h11, .ref h12, .ref h13, .ref h14, .ref h15, .ref h16, .ref h17, .ref h18, .ref h19, .ref h20, .int a8, .int a9, .int a10, .int a11, .int a12, .ref h21, .ref h22, .ref h23, .int a13, .int a14, .int a15, .int a16, .int a17, .ref h24, .ref h25, .ref h26, .ref h27, .int a18, .int a19, .int a20, .int a21, .int a22, .int a23, .int a24, .ref h28, .ref h29, .ref h30, .int a25, .ref h31, .ref h32, .ref h33, .ref h34, .ref h35, .ref h36, .ref h37, .int a26, .int a27, .ref h38, .ref h39, .ref h40, .ref h41, .ref h42, .ref h43])), (h3, .inl (cI, 2, .inl g2))]) [3, 4, 0, 1, 6, 5, 2] rfl, hD.sub (ws' := [(h8, .inl (cI, 18, .inl g7)), (h9, .inl (cI, 18, .inl g8)), (h13, .inl (cZ, 2, .inl g12)), (h24, .inl (cI, 9, .inl g23)), (h25, .inl (cI, 9, .inl g24)), (h0, .inr (9, [.ref h1, .ref h2, .int a0, .int a1, .int a2, .int a3, .int a4, .int a5, .int a6, .int a7, .long y0, .ref h3, .ref h4, .ref h5, .ref h6, .ref h7, .ref h8, .ref h9, .ref h10, .ref h11, .ref h12, .ref h13, .ref h14, .ref h15, .ref h16, .ref h17, .ref h18, .ref h19, .ref h20, .int a8, .int a9, .int a10, .int a11, .int a12, .ref h21, .ref h22, .ref h23, .int a13, .int a14, .int a15, .int a16, .int a17, .ref h24, .ref h25, .ref h26, .ref h27, .int a18, .int a19, .int a20, .int a21, .int a22, .int a23, .int a24, .ref h28, .ref h29, .ref h30, .int a25, .ref h31, .ref h32, .ref h33, .ref h34, .ref h35, .ref h36, .ref h37, .int a26, .int a27, .ref h38, .ref h39, .ref h40, .ref h41, .ref h42, .ref h43])), (h3, .inl (cI, 2, .inl g2))]) [3, 4, 0, 1, 6, 5, 2] (by decide) rfl, hS, lv_sub hl [0, 1, 2] rfl, (rg_mono hx_575 (by decide) (by decide))⟩ (by show ((9) - x_575.toInt).toNat < ((9) - x_466.toInt).toNat; have ha := h_565; simp only [rg] at ha; omega)
          · skip
            have h_576 : rg (2) (8) x_543 := by have ha := h_564; have hb_ := h_567; simp only [rg, fa_lt, fa_le, fa_eq] at ha hb_ c_574; simp only [rg]; omega
            have h_577 : rg (1) (7) x_466 := by have ha := h_576; have hb_ := h_565; simp only [rg] at ha hb_ ⊢; omega
            have h_578 : rg (3) (9) r_1 := by have ha := h_576; have hb_ := h_567; have hc_ := c_544; simp only [rg, fa_lt, fa_le, fa_eq] at ha hb_ hc_; simp only [rg]; omega
            have h_579 : rg (3) (8) x_543 := by have ha := h_576; have hb_ := h_578; have hc_ := c_574; simp only [rg, fa_lt, fa_le, fa_eq] at ha hb_ hc_; simp only [rg]; omega
            have h_580 : rg (2) (7) x_466 := by have ha := h_579; have hb_ := h_577; simp only [rg] at ha hb_ ⊢; omega
            have h_581 : rg (4) (9) r_1 := by have ha := h_579; have hb_ := h_578; have hc_ := c_544; simp only [rg, fa_lt, fa_le, fa_eq] at ha hb_ hc_; simp only [rg]; omega
            have h_582 : rg (4) (8) x_543 := by have ha := h_579; have hb_ := h_581; have hc_ := c_574; simp only [rg, fa_lt, fa_le, fa_eq] at ha hb_ hc_; simp only [rg]; omega
            have h_583 : rg (3) (7) x_466 := by have ha := h_582; have hb_ := h_580; simp only [rg] at ha hb_ ⊢; omega
            have h_584 : rg (4) (8) r_1 := by have ha := h_579; have hb_ := h_581; have hc_ := c_574; simp only [rg, fa_lt, fa_le, fa_eq] at ha hb_ hc_; simp only [rg]; omega
            have h_585 : rg (2) (8) r_1 := by have ha := h_564; have hb_ := h_567; simp only [rg, fa_lt, fa_le, fa_eq] at ha hb_ c_574; simp only [rg]; omega
            have h_586 : rg (4) (8) r_1 := by have ha := h_583; have hb_ := h_585; have hc_ := c_534; simp only [rg, fa_lt, fa_le, fa_eq] at ha hb_ hc_; simp only [rg]; omega
            have h_587 : rg (4) (7) x_543 := by have ha := h_582; have hb_ := h_586; have hc_ := c_544; simp only [rg, fa_lt, fa_le, fa_eq] at ha hb_ hc_; simp only [rg]; omega
            have h_588 : rg (3) (6) x_466 := by have ha := h_587; have hb_ := h_583; simp only [rg] at ha hb_ ⊢; omega
            have h_589 : rg (5) (8) r_1 := by have ha := h_587; have hb_ := h_586; have hc_ := c_544; simp only [rg, fa_lt, fa_le, fa_eq] at ha hb_ hc_; simp only [rg]; omega
            have h_590 : rg (5) (7) x_543 := by have ha := h_587; have hb_ := h_589; have hc_ := c_574; simp only [rg, fa_lt, fa_le, fa_eq] at ha hb_ hc_; simp only [rg]; omega
            have h_591 : rg (4) (6) x_466 := by have ha := h_590; have hb_ := h_588; simp only [rg] at ha hb_ ⊢; omega
            have h_592 : rg (5) (7) r_1 := by have ha := h_587; have hb_ := h_589; have hc_ := c_574; simp only [rg, fa_lt, fa_le, fa_eq] at ha hb_ hc_; simp only [rg]; omega
            have h_593 : rg (5) (6) x_543 := by have ha := h_590; have hb_ := h_592; have hc_ := c_544; simp only [rg, fa_lt, fa_le, fa_eq] at ha hb_ hc_; simp only [rg]; omega
            have h_594 : rg (4) (5) x_466 := by have ha := h_593; have hb_ := h_591; simp only [rg] at ha hb_ ⊢; omega
            have h_595 : rg (6) (7) r_1 := by have ha := h_593; have hb_ := h_592; have hc_ := c_544; simp only [rg, fa_lt, fa_le, fa_eq] at ha hb_ hc_; simp only [rg]; omega
            have h_596 : rg (6) (6) x_543 := by have ha := h_593; have hb_ := h_595; have hc_ := c_574; simp only [rg, fa_lt, fa_le, fa_eq] at ha hb_ hc_; simp only [rg]; omega
            have h_597 : rg (5) (5) x_466 := by have ha := h_596; have hb_ := h_594; simp only [rg] at ha hb_ ⊢; omega
            have h_598 : rg (7) (7) r_1 := by have ha := h_596; have hb_ := h_595; have hc_ := c_544; simp only [rg, fa_lt, fa_le, fa_eq] at ha hb_ hc_; simp only [rg]; omega
            exfalso; have ha := h_596; have hb_ := h_598; have hc_ := c_574; simp only [rg, fa_lt, fa_le, fa_eq] at ha hb_ hc_; omega
    · skip
      have h_599 : rg (0) (0) r_540 := by have ha := hr_540; have hb_ := (rg_k (x := 0) (c := 0) (by decide)); simp only [rg, fa_lt, fa_le, fa_eq, (by decide : (0 : Int32).toInt = 0)] at ha hb_ c_541; simp only [rg]; omega
      refine lv_iload_n hx hb dX9_firstWrong_26 rfl (lv_at hl 0 rfl) ?_
      have hP9 := hP.sub (ws' := [(h0, .inr (9, [.ref h1, .ref h2, .int a0, .int a1, .int a2, .int a3, .int a4, .int a5, .int a6, .int a7, .long y0, .ref h3, .ref h4, .ref h5, .ref h6, .ref h7, .ref h8, .ref h9, .ref h10, .ref h11, .ref h12, .ref h13, .ref h14, .ref h15, .ref h16, .ref h17, .ref h18, .ref h19, .ref h20, .int a8, .int a9, .int a10, .int a11, .int a12, .ref h21, .ref h22, .ref h23, .int a13, .int a14, .int a15, .int a16, .int a17, .ref h24, .ref h25, .ref h26, .ref h27, .int a18, .int a19, .int a20, .int a21, .int a22, .int a23, .int a24, .ref h28, .ref h29, .ref h30, .int a25, .ref h31, .ref h32, .ref h33, .ref h34, .ref h35, .ref h36, .ref h37, .int a26, .int a27, .ref h38, .ref h39, .ref h40, .ref h41, .ref h42, .ref h43])), (h3, .inl (cI, 2, .inl g2)), (h8, .inl (cI, 18, .inl g7)), (h9, .inl (cI, 18, .inl g8)), (h13, .inl (cZ, 2, .inl g12)), (h24, .inl (cI, 9, .inl g23)), (h25, .inl (cI, 9, .inl g24))]) [4, 3, 5, 6, 0, 1, 2] rfl
      have hD9 := hD.sub (ws' := [(h0, .inr (9, [.ref h1, .ref h2, .int a0, .int a1, .int a2, .int a3, .int a4, .int a5, .int a6, .int a7, .long y0, .ref h3, .ref h4, .ref h5, .ref h6, .ref h7, .ref h8, .ref h9, .ref h10, .ref h11, .ref h12, .ref h13, .ref h14, .ref h15, .ref h16, .ref h17, .ref h18, .ref h19, .ref h20, .int a8, .int a9, .int a10, .int a11, .int a12, .ref h21, .ref h22, .ref h23, .int a13, .int a14, .int a15, .int a16, .int a17, .ref h24, .ref h25, .ref h26, .ref h27, .int a18, .int a19, .int a20, .int a21, .int a22, .int a23, .int a24, .ref h28, .ref h29, .ref h30, .int a25, .ref h31, .ref h32, .ref h33, .ref h34, .ref h35, .ref h36, .ref h37, .int a26, .int a27, .ref h38, .ref h39, .ref h40, .ref h41, .ref h42, .ref h43])), (h3, .inl (cI, 2, .inl g2)), (h8, .inl (cI, 18, .inl g7)), (h9, .inl (cI, 18, .inl g8)), (h13, .inl (cZ, 2, .inl g12)), (h24, .inl (cI, 9, .inl g23)), (h25, .inl (cI, 9, .inl g24))]) [4, 3, 5, 6, 0, 1, 2] (by decide) rfl
      exact W.iret (v := x_466) hx hb hr (fun t ht hW => ⟨⟨x_466, (), rfl, (rg_mono h_535 (by decide) (by decide)), ⟨by rw [ht]; exact hP9, hD9⟩⟩, hS.F ht⟩) hS.2.2 dX9_firstWrong_27
def v_s_X9_isDigit : List Cond := Cond.code yX9_isDigit cX9_isDigit 1 (some .boolean) :: ([] ++ ([]))
theorem k_s_X9_isDigit : GoodIn lw_tbl v_s_X9_isDigit := gd_c (List.mem_of_getElem? (i := 1487) (by decide +kernel)) rfl (goodIn_app (gd_nil) (gd_nil))
set_option maxHeartbeats 2000000 in
set_option maxRecDepth 100000 in
theorem c_s_X9_isDigit (l : Launch) (dC : Nat → ClassId) (dI : Nat → Nat → Nat) (cB cI cJ cZ cP : ClassId) (p0 : Int32) (sz : Nat) : Met l yX9_isDigit v_s_X9_isDigit ({ frames := 0, cells := 0, slots := 0, locals := 0 }) (va_Pc [.int p0] (fun U => U.heap.size = sz ∧ va_P (dC, dI) vwCl [] U.heap ∧ va_K (dC, dI) vwCl (ty5 cB cI cJ cZ cP) U ∧ va_D (fun _ => True) [])) (va_Qi (fun (r : Int32) (u9 : Unit) => rg (0) (1) r ∧ (rg (1) (1) r → rg (48) (57) p0)) (fun u9 t => va_P (dC, dI) vwCl [] t.heap ∧ va_D (va_A [] sz) []) (va_A [] sz)) 0 0 (va_A [] sz) := by
  refine Met.ofW (cc := cX9_isDigit) (maxL := 1) (ret := (some .boolean)) (by decide) rfl ?_
  intro p e s m args below meth c s₁ B hml hv
  obtain ⟨rfl, hsz, hP, hK, hD0⟩ := hv
  have hx := B.exec
  have hb := B.bytes
  have hr := B.returns
  have hts := atoms_spec (ws := v_s_X9_isDigit) B.pre
  have hown : s.vm.findClass RX9 = some m.cls := findClass_of_methodNamed B.named
  have hlocks := B.notSynchronized
  subst hsz
  have hD := hD0.self (sz := s.heap.size)
  generalize hAe : va_A [] s.heap.size = A at hD ⊢
  have hA : ∀ q : Nat, s.heap.size ≤ q → A q := fun q h => by rw [← hAe]; exact Or.inr h
  have hP : va_P (dC, dI) vwCl [] s.heap := hP
  have hl := lv_entry ([.int p0]) (n := 1) (Nat.le_of_ble_eq_true rfl)
  rw [lg_entry_eq]
  generalize (lg_sl ([.int p0]) ++ List.replicate (1 - (lg_sl ([.int p0])).length) Slot.unset).toArray = ls at hl ⊢
  have hl : lv_has ls 1 [(0, .int p0)] := hl
  refine W_gen (A := A) hP (fun H locs hP hS => ?_)
  refine lv_iload_n hx hb dX9_isDigit_0 rfl (lv_at hl 0 rfl) ?_
  refine lv_bipush (v := 48) hx hb dX9_isDigit_1 (by decide) ?_
  refine lv_icmp_lt (tgt := 16) hx hb dX9_isDigit_3 (by decide) (fun c_1 => ?_) (fun c_1 => ?_)
  · skip
    have h_2 : rg (-2147483648) (47) p0 := by have ha := (rg_any p0); have hb_ := (rg_k (x := 48) (c := 48) (by decide)); simp only [rg, fa_lt, fa_le, fa_eq, (by decide : (48 : Int32).toInt = 48)] at ha hb_ c_1; simp only [rg]; omega
    refine lv_iconst (v := 0) hx hb dX9_isDigit_16 (by decide) ?_
    have hP9 := hP.sub (ws' := []) [] rfl
    have hD9 := hD.sub (ws' := []) [] (by decide) rfl
    exact W.zret (v := 0) hx hb hr (rfl) (fun t ht hW => ⟨⟨0, (), rfl, ⟨(rg_mono (rg_k (x := 0) (c := 0) (by decide)) (by decide) (by decide)), fun hq => (rg_off (rg_k (x := 0) (c := 0) (by decide)) hq (by decide)).elim⟩, ⟨by rw [ht]; exact hP9, hD9⟩⟩, hS.F ht⟩) hS.2.2 dX9_isDigit_17
  · skip
    have h_3 : rg (48) (2147483647) p0 := by have ha := (rg_any p0); have hb_ := (rg_k (x := 48) (c := 48) (by decide)); simp only [rg, fa_lt, fa_le, fa_eq, (by decide : (48 : Int32).toInt = 48)] at ha hb_ c_1; simp only [rg]; omega
    refine lv_iload_n hx hb dX9_isDigit_6 rfl (lv_at hl 0 rfl) ?_
    refine lv_bipush (v := 57) hx hb dX9_isDigit_7 (by decide) ?_
    refine lv_icmp_gt (tgt := 16) hx hb dX9_isDigit_9 (by decide) (fun c_4 => ?_) (fun c_4 => ?_)
    · skip
      have h_5 : rg (58) (2147483647) p0 := by have ha := h_3; have hb_ := (rg_k (x := 57) (c := 57) (by decide)); simp only [rg, fa_lt, fa_le, fa_eq, (by decide : (57 : Int32).toInt = 57)] at ha hb_ c_4; simp only [rg]; omega
      refine lv_iconst (v := 0) hx hb dX9_isDigit_16 (by decide) ?_
      have hP9 := hP.sub (ws' := []) [] rfl
      have hD9 := hD.sub (ws' := []) [] (by decide) rfl
      exact W.zret (v := 0) hx hb hr (rfl) (fun t ht hW => ⟨⟨0, (), rfl, ⟨(rg_mono (rg_k (x := 0) (c := 0) (by decide)) (by decide) (by decide)), fun hq => (rg_off (rg_k (x := 0) (c := 0) (by decide)) hq (by decide)).elim⟩, ⟨by rw [ht]; exact hP9, hD9⟩⟩, hS.F ht⟩) hS.2.2 dX9_isDigit_17
    · skip
      have h_6 : rg (48) (57) p0 := by have ha := h_3; have hb_ := (rg_k (x := 57) (c := 57) (by decide)); simp only [rg, fa_lt, fa_le, fa_eq, (by decide : (57 : Int32).toInt = 57)] at ha hb_ c_4; simp only [rg]; omega
      refine lv_iconst (v := 1) hx hb dX9_isDigit_12 (by decide) ?_
      refine lv_goto (tgt := 17) hx hb dX9_isDigit_13 (by decide) ?_
      have hP9 := hP.sub (ws' := []) [] rfl
      have hD9 := hD.sub (ws' := []) [] (by decide) rfl
      exact W.zret (v := 1) hx hb hr (rfl) (fun t ht hW => ⟨⟨1, (), rfl, ⟨(rg_mono (rg_k (x := 1) (c := 1) (by decide)) (by decide) (by decide)), fun _ => (rg_mono h_6 (by decide) (by decide))⟩, ⟨by rw [ht]; exact hP9, hD9⟩⟩, hS.F ht⟩) hS.2.2 dX9_isDigit_17
def v_s_X9_isSign : List Cond := Cond.code yX9_isSign cX9_isSign 1 (some .boolean) :: ([] ++ ([]))
theorem k_s_X9_isSign : GoodIn lw_tbl v_s_X9_isSign := gd_c (List.mem_of_getElem? (i := 1490) (by decide +kernel)) rfl (goodIn_app (gd_nil) (gd_nil))
set_option maxHeartbeats 2000000 in
set_option maxRecDepth 100000 in
theorem c_s_X9_isSign (l : Launch) (dC : Nat → ClassId) (dI : Nat → Nat → Nat) (cB cI cJ cZ cP : ClassId) (p0 : Int32) (sz : Nat) : Met l yX9_isSign v_s_X9_isSign ({ frames := 0, cells := 0, slots := 0, locals := 0 }) (va_Pc [.int p0] (fun U => U.heap.size = sz ∧ va_P (dC, dI) vwCl [] U.heap ∧ va_K (dC, dI) vwCl (ty5 cB cI cJ cZ cP) U ∧ va_D (fun _ => True) [])) (va_Qi (fun (r : Int32) (u9 : Unit) => rg (0) (1) r) (fun u9 t => va_P (dC, dI) vwCl [] t.heap ∧ va_D (va_A [] sz) []) (va_A [] sz)) 0 0 (va_A [] sz) := by
  refine Met.ofW (cc := cX9_isSign) (maxL := 1) (ret := (some .boolean)) (by decide) rfl ?_
  intro p e s m args below meth c s₁ B hml hv
  obtain ⟨rfl, hsz, hP, hK, hD0⟩ := hv
  have hx := B.exec
  have hb := B.bytes
  have hr := B.returns
  have hts := atoms_spec (ws := v_s_X9_isSign) B.pre
  have hown : s.vm.findClass RX9 = some m.cls := findClass_of_methodNamed B.named
  have hlocks := B.notSynchronized
  subst hsz
  have hD := hD0.self (sz := s.heap.size)
  generalize hAe : va_A [] s.heap.size = A at hD ⊢
  have hA : ∀ q : Nat, s.heap.size ≤ q → A q := fun q h => by rw [← hAe]; exact Or.inr h
  have hP : va_P (dC, dI) vwCl [] s.heap := hP
  have hl := lv_entry ([.int p0]) (n := 1) (Nat.le_of_ble_eq_true rfl)
  rw [lg_entry_eq]
  generalize (lg_sl ([.int p0]) ++ List.replicate (1 - (lg_sl ([.int p0])).length) Slot.unset).toArray = ls at hl ⊢
  have hl : lv_has ls 1 [(0, .int p0)] := hl
  refine W_gen (A := A) hP (fun H locs hP hS => ?_)
  refine lv_iload_n hx hb dX9_isSign_0 rfl (lv_at hl 0 rfl) ?_
  refine lv_bipush (v := 59) hx hb dX9_isSign_1 (by decide) ?_
  refine lv_icmp_eq (tgt := 60) hx hb dX9_isSign_3 (by decide) (fun c_1 => ?_) (fun c_1 => ?_)
  · skip
    have h_2 : rg (59) (59) p0 := by have ha := (rg_any p0); have hb_ := (rg_k (x := 59) (c := 59) (by decide)); simp only [rg, fa_lt, fa_le, fa_eq, (by decide : (59 : Int32).toInt = 59)] at ha hb_ c_1; simp only [rg]; omega
    refine lv_iconst (v := 1) hx hb dX9_isSign_60 (by decide) ?_
    refine lv_goto (tgt := 65) hx hb dX9_isSign_61 (by decide) ?_
    have hP9 := hP.sub (ws' := []) [] rfl
    have hD9 := hD.sub (ws' := []) [] (by decide) rfl
    exact W.zret (v := 1) hx hb hr (rfl) (fun t ht hW => ⟨⟨1, (), rfl, (rg_mono (rg_k (x := 1) (c := 1) (by decide)) (by decide) (by decide)), ⟨by rw [ht]; exact hP9, hD9⟩⟩, hS.F ht⟩) hS.2.2 dX9_isSign_65
  · skip
    refine lv_iload_n hx hb dX9_isSign_6 rfl (lv_at hl 0 rfl) ?_
    refine lv_bipush (v := 40) hx hb dX9_isSign_7 (by decide) ?_
    refine lv_icmp_eq (tgt := 60) hx hb dX9_isSign_9 (by decide) (fun c_3 => ?_) (fun c_3 => ?_)
    · skip
      have h_4 : rg (40) (40) p0 := by have ha := (rg_any p0); have hb_ := (rg_k (x := 40) (c := 40) (by decide)); simp only [rg, fa_lt, fa_le, fa_eq, (by decide : (40 : Int32).toInt = 40)] at ha hb_ c_3; simp only [rg]; omega
      refine lv_iconst (v := 1) hx hb dX9_isSign_60 (by decide) ?_
      refine lv_goto (tgt := 65) hx hb dX9_isSign_61 (by decide) ?_
      have hP9 := hP.sub (ws' := []) [] rfl
      have hD9 := hD.sub (ws' := []) [] (by decide) rfl
      exact W.zret (v := 1) hx hb hr (rfl) (fun t ht hW => ⟨⟨1, (), rfl, (rg_mono (rg_k (x := 1) (c := 1) (by decide)) (by decide) (by decide)), ⟨by rw [ht]; exact hP9, hD9⟩⟩, hS.F ht⟩) hS.2.2 dX9_isSign_65
    · skip
      refine lv_iload_n hx hb dX9_isSign_12 rfl (lv_at hl 0 rfl) ?_
      refine lv_bipush (v := 41) hx hb dX9_isSign_13 (by decide) ?_
      refine lv_icmp_eq (tgt := 60) hx hb dX9_isSign_15 (by decide) (fun c_5 => ?_) (fun c_5 => ?_)
      · skip
        have h_6 : rg (41) (41) p0 := by have ha := (rg_any p0); have hb_ := (rg_k (x := 41) (c := 41) (by decide)); simp only [rg, fa_lt, fa_le, fa_eq, (by decide : (41 : Int32).toInt = 41)] at ha hb_ c_5; simp only [rg]; omega
        refine lv_iconst (v := 1) hx hb dX9_isSign_60 (by decide) ?_
        refine lv_goto (tgt := 65) hx hb dX9_isSign_61 (by decide) ?_
        have hP9 := hP.sub (ws' := []) [] rfl
        have hD9 := hD.sub (ws' := []) [] (by decide) rfl
        exact W.zret (v := 1) hx hb hr (rfl) (fun t ht hW => ⟨⟨1, (), rfl, (rg_mono (rg_k (x := 1) (c := 1) (by decide)) (by decide) (by decide)), ⟨by rw [ht]; exact hP9, hD9⟩⟩, hS.F ht⟩) hS.2.2 dX9_isSign_65
      · skip
        refine lv_iload_n hx hb dX9_isSign_18 rfl (lv_at hl 0 rfl) ?_
        refine lv_bipush (v := 60) hx hb dX9_isSign_19 (by decide) ?_
        refine lv_icmp_eq (tgt := 60) hx hb dX9_isSign_21 (by decide) (fun c_7 => ?_) (fun c_7 => ?_)
        · skip
          have h_8 : rg (60) (60) p0 := by have ha := (rg_any p0); have hb_ := (rg_k (x := 60) (c := 60) (by decide)); simp only [rg, fa_lt, fa_le, fa_eq, (by decide : (60 : Int32).toInt = 60)] at ha hb_ c_7; simp only [rg]; omega
          refine lv_iconst (v := 1) hx hb dX9_isSign_60 (by decide) ?_
          refine lv_goto (tgt := 65) hx hb dX9_isSign_61 (by decide) ?_
          have hP9 := hP.sub (ws' := []) [] rfl
          have hD9 := hD.sub (ws' := []) [] (by decide) rfl
          exact W.zret (v := 1) hx hb hr (rfl) (fun t ht hW => ⟨⟨1, (), rfl, (rg_mono (rg_k (x := 1) (c := 1) (by decide)) (by decide) (by decide)), ⟨by rw [ht]; exact hP9, hD9⟩⟩, hS.F ht⟩) hS.2.2 dX9_isSign_65
        · skip
          refine lv_iload_n hx hb dX9_isSign_24 rfl (lv_at hl 0 rfl) ?_
          refine lv_bipush (v := 62) hx hb dX9_isSign_25 (by decide) ?_
          refine lv_icmp_eq (tgt := 60) hx hb dX9_isSign_27 (by decide) (fun c_9 => ?_) (fun c_9 => ?_)
          · skip
            have h_10 : rg (62) (62) p0 := by have ha := (rg_any p0); have hb_ := (rg_k (x := 62) (c := 62) (by decide)); simp only [rg, fa_lt, fa_le, fa_eq, (by decide : (62 : Int32).toInt = 62)] at ha hb_ c_9; simp only [rg]; omega
            refine lv_iconst (v := 1) hx hb dX9_isSign_60 (by decide) ?_
            refine lv_goto (tgt := 65) hx hb dX9_isSign_61 (by decide) ?_
            have hP9 := hP.sub (ws' := []) [] rfl
            have hD9 := hD.sub (ws' := []) [] (by decide) rfl
            exact W.zret (v := 1) hx hb hr (rfl) (fun t ht hW => ⟨⟨1, (), rfl, (rg_mono (rg_k (x := 1) (c := 1) (by decide)) (by decide) (by decide)), ⟨by rw [ht]; exact hP9, hD9⟩⟩, hS.F ht⟩) hS.2.2 dX9_isSign_65
          · skip
            refine lv_iload_n hx hb dX9_isSign_30 rfl (lv_at hl 0 rfl) ?_
            refine lv_bipush (v := 61) hx hb dX9_isSign_31 (by decide) ?_
            refine lv_icmp_eq (tgt := 60) hx hb dX9_isSign_33 (by decide) (fun c_11 => ?_) (fun c_11 => ?_)
            · skip
              have h_12 : rg (61) (61) p0 := by have ha := (rg_any p0); have hb_ := (rg_k (x := 61) (c := 61) (by decide)); simp only [rg, fa_lt, fa_le, fa_eq, (by decide : (61 : Int32).toInt = 61)] at ha hb_ c_11; simp only [rg]; omega
              refine lv_iconst (v := 1) hx hb dX9_isSign_60 (by decide) ?_
              refine lv_goto (tgt := 65) hx hb dX9_isSign_61 (by decide) ?_
              have hP9 := hP.sub (ws' := []) [] rfl
              have hD9 := hD.sub (ws' := []) [] (by decide) rfl
              exact W.zret (v := 1) hx hb hr (rfl) (fun t ht hW => ⟨⟨1, (), rfl, (rg_mono (rg_k (x := 1) (c := 1) (by decide)) (by decide) (by decide)), ⟨by rw [ht]; exact hP9, hD9⟩⟩, hS.F ht⟩) hS.2.2 dX9_isSign_65
            · skip
              refine lv_iload_n hx hb dX9_isSign_36 rfl (lv_at hl 0 rfl) ?_
              refine lv_bipush (v := 43) hx hb dX9_isSign_37 (by decide) ?_
              refine lv_icmp_eq (tgt := 60) hx hb dX9_isSign_39 (by decide) (fun c_13 => ?_) (fun c_13 => ?_)
              · skip
                have h_14 : rg (43) (43) p0 := by have ha := (rg_any p0); have hb_ := (rg_k (x := 43) (c := 43) (by decide)); simp only [rg, fa_lt, fa_le, fa_eq, (by decide : (43 : Int32).toInt = 43)] at ha hb_ c_13; simp only [rg]; omega
                refine lv_iconst (v := 1) hx hb dX9_isSign_60 (by decide) ?_
                refine lv_goto (tgt := 65) hx hb dX9_isSign_61 (by decide) ?_
                have hP9 := hP.sub (ws' := []) [] rfl
                have hD9 := hD.sub (ws' := []) [] (by decide) rfl
                exact W.zret (v := 1) hx hb hr (rfl) (fun t ht hW => ⟨⟨1, (), rfl, (rg_mono (rg_k (x := 1) (c := 1) (by decide)) (by decide) (by decide)), ⟨by rw [ht]; exact hP9, hD9⟩⟩, hS.F ht⟩) hS.2.2 dX9_isSign_65
              · skip
                refine lv_iload_n hx hb dX9_isSign_42 rfl (lv_at hl 0 rfl) ?_
                refine lv_bipush (v := 45) hx hb dX9_isSign_43 (by decide) ?_
                refine lv_icmp_eq (tgt := 60) hx hb dX9_isSign_45 (by decide) (fun c_15 => ?_) (fun c_15 => ?_)
                · skip
                  have h_16 : rg (45) (45) p0 := by have ha := (rg_any p0); have hb_ := (rg_k (x := 45) (c := 45) (by decide)); simp only [rg, fa_lt, fa_le, fa_eq, (by decide : (45 : Int32).toInt = 45)] at ha hb_ c_15; simp only [rg]; omega
                  refine lv_iconst (v := 1) hx hb dX9_isSign_60 (by decide) ?_
                  refine lv_goto (tgt := 65) hx hb dX9_isSign_61 (by decide) ?_
                  have hP9 := hP.sub (ws' := []) [] rfl
                  have hD9 := hD.sub (ws' := []) [] (by decide) rfl
                  exact W.zret (v := 1) hx hb hr (rfl) (fun t ht hW => ⟨⟨1, (), rfl, (rg_mono (rg_k (x := 1) (c := 1) (by decide)) (by decide) (by decide)), ⟨by rw [ht]; exact hP9, hD9⟩⟩, hS.F ht⟩) hS.2.2 dX9_isSign_65
                · skip
                  refine lv_iload_n hx hb dX9_isSign_48 rfl (lv_at hl 0 rfl) ?_
                  refine lv_bipush (v := 42) hx hb dX9_isSign_49 (by decide) ?_
                  refine lv_icmp_eq (tgt := 60) hx hb dX9_isSign_51 (by decide) (fun c_17 => ?_) (fun c_17 => ?_)
                  · skip
                    have h_18 : rg (42) (42) p0 := by have ha := (rg_any p0); have hb_ := (rg_k (x := 42) (c := 42) (by decide)); simp only [rg, fa_lt, fa_le, fa_eq, (by decide : (42 : Int32).toInt = 42)] at ha hb_ c_17; simp only [rg]; omega
                    refine lv_iconst (v := 1) hx hb dX9_isSign_60 (by decide) ?_
                    refine lv_goto (tgt := 65) hx hb dX9_isSign_61 (by decide) ?_
                    have hP9 := hP.sub (ws' := []) [] rfl
                    have hD9 := hD.sub (ws' := []) [] (by decide) rfl
                    exact W.zret (v := 1) hx hb hr (rfl) (fun t ht hW => ⟨⟨1, (), rfl, (rg_mono (rg_k (x := 1) (c := 1) (by decide)) (by decide) (by decide)), ⟨by rw [ht]; exact hP9, hD9⟩⟩, hS.F ht⟩) hS.2.2 dX9_isSign_65
                  · skip
                    refine lv_iload_n hx hb dX9_isSign_54 rfl (lv_at hl 0 rfl) ?_
                    refine lv_bipush (v := 47) hx hb dX9_isSign_55 (by decide) ?_
                    refine lv_icmp_ne (tgt := 64) hx hb dX9_isSign_57 (by decide) (fun c_19 => ?_) (fun c_19 => ?_)
                    · skip
                      refine lv_iconst (v := 0) hx hb dX9_isSign_64 (by decide) ?_
                      have hP9 := hP.sub (ws' := []) [] rfl
                      have hD9 := hD.sub (ws' := []) [] (by decide) rfl
                      exact W.zret (v := 0) hx hb hr (rfl) (fun t ht hW => ⟨⟨0, (), rfl, (rg_mono (rg_k (x := 0) (c := 0) (by decide)) (by decide) (by decide)), ⟨by rw [ht]; exact hP9, hD9⟩⟩, hS.F ht⟩) hS.2.2 dX9_isSign_65
                    · skip
                      have h_20 : rg (47) (47) p0 := by have ha := (rg_any p0); have hb_ := (rg_k (x := 47) (c := 47) (by decide)); simp only [rg, fa_lt, fa_le, fa_eq, (by decide : (47 : Int32).toInt = 47)] at ha hb_ c_19; simp only [rg]; omega
                      refine lv_iconst (v := 1) hx hb dX9_isSign_60 (by decide) ?_
                      refine lv_goto (tgt := 65) hx hb dX9_isSign_61 (by decide) ?_
                      have hP9 := hP.sub (ws' := []) [] rfl
                      have hD9 := hD.sub (ws' := []) [] (by decide) rfl
                      exact W.zret (v := 1) hx hb hr (rfl) (fun t ht hW => ⟨⟨1, (), rfl, (rg_mono (rg_k (x := 1) (c := 1) (by decide)) (by decide) (by decide)), ⟨by rw [ht]; exact hP9, hD9⟩⟩, hS.F ht⟩) hS.2.2 dX9_isSign_65
def v_s_X9_isKept : List Cond := Cond.code yX9_isKept cX9_isKept 3 (some .boolean) :: ([Cond.constantLong RX9 161 (448546567013), Cond.constantLong RX9 163 (131277443786868), Cond.constantLong RX9 165 (422607680115), Cond.constantLong RX9 167 (31935733760681324), Cond.constantLong RX9 169 (2003399528), Cond.constantLong RX9 171 (512970880104), Cond.constantLong RX9 173 (126943972648308), Cond.constantLong RX9 175 (7102839), Cond.constantLong RX9 177 (465624852596), Cond.constantLong RX9 179 (448377484921), Cond.constantLong RX9 181 (495690081125), Cond.constantLong RX9 183 (2036687218), Cond.constantLong RX9 185 (6385252), Cond.constantLong RX9 187 (28530), Cond.constantLong RX9 189 (7237492)] ++ ([]))
theorem k_s_X9_isKept : GoodIn lw_tbl v_s_X9_isKept := gd_c (List.mem_of_getElem? (i := 1469) (by decide +kernel)) rfl (goodIn_app (gd_c (List.mem_of_getElem? (i := 1470) (by decide +kernel)) rfl (gd_c (List.mem_of_getElem? (i := 1471) (by decide +kernel)) rfl (gd_c (List.mem_of_getElem? (i := 1472) (by decide +kernel)) rfl (gd_c (List.mem_of_getElem? (i := 1473) (by decide +kernel)) rfl (gd_c (List.mem_of_getElem? (i := 1474) (by decide +kernel)) rfl (gd_c (List.mem_of_getElem? (i := 1475) (by decide +kernel)) rfl (gd_c (List.mem_of_getElem? (i := 1476) (by decide +kernel)) rfl (gd_c (List.mem_of_getElem? (i := 1477) (by decide +kernel)) rfl (gd_c (List.mem_of_getElem? (i := 1478) (by decide +kernel)) rfl (gd_c (List.mem_of_getElem? (i := 1479) (by decide +kernel)) rfl (gd_c (List.mem_of_getElem? (i := 1480) (by decide +kernel)) rfl (gd_c (List.mem_of_getElem? (i := 1481) (by decide +kernel)) rfl (gd_c (List.mem_of_getElem? (i := 1482) (by decide +kernel)) rfl (gd_c (List.mem_of_getElem? (i := 1483) (by decide +kernel)) rfl (gd_c (List.mem_of_getElem? (i := 1484) (by decide +kernel)) rfl (gd_nil)))))))))))))))) (gd_nil))
set_option maxHeartbeats 2000000 in
set_option maxRecDepth 100000 in
theorem c_s_X9_isKept (l : Launch) (dC : Nat → ClassId) (dI : Nat → Nat → Nat) (cB cI cJ cZ cP : ClassId) (y0 : Int64) (sz : Nat) : Met l yX9_isKept v_s_X9_isKept ({ frames := 0, cells := 0, slots := 0, locals := 0 }) (va_Pc [.long y0] (fun U => U.heap.size = sz ∧ va_P (dC, dI) vwCl [] U.heap ∧ va_K (dC, dI) vwCl (ty5 cB cI cJ cZ cP) U ∧ va_D (fun _ => True) [])) (va_Qi (fun (r : Int32) (u9 : Unit) => rg (0) (1) r) (fun u9 t => va_P (dC, dI) vwCl [] t.heap ∧ va_D (va_A [] sz) []) (va_A [] sz)) 0 0 (va_A [] sz) := by
  refine Met.ofW (cc := cX9_isKept) (maxL := 3) (ret := (some .boolean)) (by decide) rfl ?_
  intro p e s m args below meth c s₁ B hml hv
  obtain ⟨rfl, hsz, hP, hK, hD0⟩ := hv
  have hx := B.exec
  have hb := B.bytes
  have hr := B.returns
  have hts := atoms_spec (ws := v_s_X9_isKept) B.pre
  have hown : s.vm.findClass RX9 = some m.cls := findClass_of_methodNamed B.named
  have hlocks := B.notSynchronized
  subst hsz
  have hD := hD0.self (sz := s.heap.size)
  generalize hAe : va_A [] s.heap.size = A at hD ⊢
  have hA : ∀ q : Nat, s.heap.size ≤ q → A q := fun q h => by rw [← hAe]; exact Or.inr h
  have hP : va_P (dC, dI) vwCl [] s.heap := hP
  have hl := lv_entry ([.long y0]) (n := 3) (Nat.le_of_ble_eq_true rfl)
  rw [lg_entry_eq]
  generalize (lg_sl ([.long y0]) ++ List.replicate (3 - (lg_sl ([.long y0])).length) Slot.unset).toArray = ls at hl ⊢
  have hl : lv_has ls 3 [(0, .long y0)] := hl
  refine W_gen (A := A) hP (fun H locs hP hS => ?_)
  refine lv_lload_n hx hb dX9_isKept_0 rfl (lv_at hl 0 rfl) ?_
  refine lv_ldc2 (v := 448546567013) hx hb hown (hts (.constantLong RX9 161 (448546567013)) (List.mem_of_getElem? (i := 1) rfl)) dX9_isKept_1 ?_
  refine W.lcmp hx hb dX9_isKept_4 ?_
  refine lv_topi (fun x_1 ex_1 => ?_)
  refine lv_if_eq (tgt := 64) hx hb dX9_isKept_5 (by decide) (fun c_2 => ?_) (fun c_2 => ?_)
  · skip
    have h_3 : rg (0) (0) x_1 := by have ha := (rg_any x_1); have hb_ := (rg_k (x := 0) (c := 0) (by decide)); simp only [rg, fa_lt, fa_le, fa_eq, (by decide : (0 : Int32).toInt = 0)] at ha hb_ c_2; simp only [rg]; omega
    refine lv_iconst (v := 1) hx hb dX9_isKept_64 (by decide) ?_
    refine lv_goto (tgt := 69) hx hb dX9_isKept_65 (by decide) ?_
    refine lv_istore_n (lv' := [(2, .int 1), (0, .long y0)]) hx hb dX9_isKept_69 rfl hl (by decide) rfl (fun ls hl => ?_)
    refine lv_iload_n hx hb dX9_isKept_70 rfl (lv_at hl 0 rfl) ?_
    refine lv_if_ne (tgt := 130) hx hb dX9_isKept_71 (by decide) (fun _ => ?_) (fun cz => absurd cz (by decide))
    refine lv_iconst (v := 1) hx hb dX9_isKept_130 (by decide) ?_
    refine lv_goto (tgt := 135) hx hb dX9_isKept_131 (by decide) ?_
    have hP9 := hP.sub (ws' := []) [] rfl
    have hD9 := hD.sub (ws' := []) [] (by decide) rfl
    exact W.zret (v := 1) hx hb hr (rfl) (fun t ht hW => ⟨⟨1, (), rfl, (rg_mono (rg_k (x := 1) (c := 1) (by decide)) (by decide) (by decide)), ⟨by rw [ht]; exact hP9, hD9⟩⟩, hS.F ht⟩) hS.2.2 dX9_isKept_135
  · skip
    refine lv_lload_n hx hb dX9_isKept_8 rfl (lv_at hl 0 rfl) ?_
    refine lv_ldc2 (v := 131277443786868) hx hb hown (hts (.constantLong RX9 163 (131277443786868)) (List.mem_of_getElem? (i := 2) rfl)) dX9_isKept_9 ?_
    refine W.lcmp hx hb dX9_isKept_12 ?_
    refine lv_topi (fun x_4 ex_4 => ?_)
    refine lv_if_eq (tgt := 64) hx hb dX9_isKept_13 (by decide) (fun c_5 => ?_) (fun c_5 => ?_)
    · skip
      have h_6 : rg (0) (0) x_4 := by have ha := (rg_any x_4); have hb_ := (rg_k (x := 0) (c := 0) (by decide)); simp only [rg, fa_lt, fa_le, fa_eq, (by decide : (0 : Int32).toInt = 0)] at ha hb_ c_5; simp only [rg]; omega
      refine lv_iconst (v := 1) hx hb dX9_isKept_64 (by decide) ?_
      refine lv_goto (tgt := 69) hx hb dX9_isKept_65 (by decide) ?_
      refine lv_istore_n (lv' := [(2, .int 1), (0, .long y0)]) hx hb dX9_isKept_69 rfl hl (by decide) rfl (fun ls hl => ?_)
      refine lv_iload_n hx hb dX9_isKept_70 rfl (lv_at hl 0 rfl) ?_
      refine lv_if_ne (tgt := 130) hx hb dX9_isKept_71 (by decide) (fun _ => ?_) (fun cz => absurd cz (by decide))
      refine lv_iconst (v := 1) hx hb dX9_isKept_130 (by decide) ?_
      refine lv_goto (tgt := 135) hx hb dX9_isKept_131 (by decide) ?_
      have hP9 := hP.sub (ws' := []) [] rfl
      have hD9 := hD.sub (ws' := []) [] (by decide) rfl
      exact W.zret (v := 1) hx hb hr (rfl) (fun t ht hW => ⟨⟨1, (), rfl, (rg_mono (rg_k (x := 1) (c := 1) (by decide)) (by decide) (by decide)), ⟨by rw [ht]; exact hP9, hD9⟩⟩, hS.F ht⟩) hS.2.2 dX9_isKept_135
    · skip
      refine lv_lload_n hx hb dX9_isKept_16 rfl (lv_at hl 0 rfl) ?_
      refine lv_ldc2 (v := 422607680115) hx hb hown (hts (.constantLong RX9 165 (422607680115)) (List.mem_of_getElem? (i := 3) rfl)) dX9_isKept_17 ?_
      refine W.lcmp hx hb dX9_isKept_20 ?_
      refine lv_topi (fun x_7 ex_7 => ?_)
      refine lv_if_eq (tgt := 64) hx hb dX9_isKept_21 (by decide) (fun c_8 => ?_) (fun c_8 => ?_)
      · skip
        have h_9 : rg (0) (0) x_7 := by have ha := (rg_any x_7); have hb_ := (rg_k (x := 0) (c := 0) (by decide)); simp only [rg, fa_lt, fa_le, fa_eq, (by decide : (0 : Int32).toInt = 0)] at ha hb_ c_8; simp only [rg]; omega
        refine lv_iconst (v := 1) hx hb dX9_isKept_64 (by decide) ?_
        refine lv_goto (tgt := 69) hx hb dX9_isKept_65 (by decide) ?_
        refine lv_istore_n (lv' := [(2, .int 1), (0, .long y0)]) hx hb dX9_isKept_69 rfl hl (by decide) rfl (fun ls hl => ?_)
        refine lv_iload_n hx hb dX9_isKept_70 rfl (lv_at hl 0 rfl) ?_
        refine lv_if_ne (tgt := 130) hx hb dX9_isKept_71 (by decide) (fun _ => ?_) (fun cz => absurd cz (by decide))
        refine lv_iconst (v := 1) hx hb dX9_isKept_130 (by decide) ?_
        refine lv_goto (tgt := 135) hx hb dX9_isKept_131 (by decide) ?_
        have hP9 := hP.sub (ws' := []) [] rfl
        have hD9 := hD.sub (ws' := []) [] (by decide) rfl
        exact W.zret (v := 1) hx hb hr (rfl) (fun t ht hW => ⟨⟨1, (), rfl, (rg_mono (rg_k (x := 1) (c := 1) (by decide)) (by decide) (by decide)), ⟨by rw [ht]; exact hP9, hD9⟩⟩, hS.F ht⟩) hS.2.2 dX9_isKept_135
      · skip
        refine lv_lload_n hx hb dX9_isKept_24 rfl (lv_at hl 0 rfl) ?_
        refine lv_ldc2 (v := 31935733760681324) hx hb hown (hts (.constantLong RX9 167 (31935733760681324)) (List.mem_of_getElem? (i := 4) rfl)) dX9_isKept_25 ?_
        refine W.lcmp hx hb dX9_isKept_28 ?_
        refine lv_topi (fun x_10 ex_10 => ?_)
        refine lv_if_eq (tgt := 64) hx hb dX9_isKept_29 (by decide) (fun c_11 => ?_) (fun c_11 => ?_)
        · skip
          have h_12 : rg (0) (0) x_10 := by have ha := (rg_any x_10); have hb_ := (rg_k (x := 0) (c := 0) (by decide)); simp only [rg, fa_lt, fa_le, fa_eq, (by decide : (0 : Int32).toInt = 0)] at ha hb_ c_11; simp only [rg]; omega
          refine lv_iconst (v := 1) hx hb dX9_isKept_64 (by decide) ?_
          refine lv_goto (tgt := 69) hx hb dX9_isKept_65 (by decide) ?_
          refine lv_istore_n (lv' := [(2, .int 1), (0, .long y0)]) hx hb dX9_isKept_69 rfl hl (by decide) rfl (fun ls hl => ?_)
          refine lv_iload_n hx hb dX9_isKept_70 rfl (lv_at hl 0 rfl) ?_
          refine lv_if_ne (tgt := 130) hx hb dX9_isKept_71 (by decide) (fun _ => ?_) (fun cz => absurd cz (by decide))
          refine lv_iconst (v := 1) hx hb dX9_isKept_130 (by decide) ?_
          refine lv_goto (tgt := 135) hx hb dX9_isKept_131 (by decide) ?_
          have hP9 := hP.sub (ws' := []) [] rfl
          have hD9 := hD.sub (ws' := []) [] (by decide) rfl
          exact W.zret (v := 1) hx hb hr (rfl) (fun t ht hW => ⟨⟨1, (), rfl, (rg_mono (rg_k (x := 1) (c := 1) (by decide)) (by decide) (by decide)), ⟨by rw [ht]; exact hP9, hD9⟩⟩, hS.F ht⟩) hS.2.2 dX9_isKept_135
        · skip
          refine lv_lload_n hx hb dX9_isKept_32 rfl (lv_at hl 0 rfl) ?_
          refine lv_ldc2 (v := 2003399528) hx hb hown (hts (.constantLong RX9 169 (2003399528)) (List.mem_of_getElem? (i := 5) rfl)) dX9_isKept_33 ?_
          refine W.lcmp hx hb dX9_isKept_36 ?_
          refine lv_topi (fun x_13 ex_13 => ?_)
          refine lv_if_eq (tgt := 64) hx hb dX9_isKept_37 (by decide) (fun c_14 => ?_) (fun c_14 => ?_)
          · skip
            have h_15 : rg (0) (0) x_13 := by have ha := (rg_any x_13); have hb_ := (rg_k (x := 0) (c := 0) (by decide)); simp only [rg, fa_lt, fa_le, fa_eq, (by decide : (0 : Int32).toInt = 0)] at ha hb_ c_14; simp only [rg]; omega
            refine lv_iconst (v := 1) hx hb dX9_isKept_64 (by decide) ?_
            refine lv_goto (tgt := 69) hx hb dX9_isKept_65 (by decide) ?_
            refine lv_istore_n (lv' := [(2, .int 1), (0, .long y0)]) hx hb dX9_isKept_69 rfl hl (by decide) rfl (fun ls hl => ?_)
            refine lv_iload_n hx hb dX9_isKept_70 rfl (lv_at hl 0 rfl) ?_
            refine lv_if_ne (tgt := 130) hx hb dX9_isKept_71 (by decide) (fun _ => ?_) (fun cz => absurd cz (by decide))
            refine lv_iconst (v := 1) hx hb dX9_isKept_130 (by decide) ?_
            refine lv_goto (tgt := 135) hx hb dX9_isKept_131 (by decide) ?_
            have hP9 := hP.sub (ws' := []) [] rfl
            have hD9 := hD.sub (ws' := []) [] (by decide) rfl
            exact W.zret (v := 1) hx hb hr (rfl) (fun t ht hW => ⟨⟨1, (), rfl, (rg_mono (rg_k (x := 1) (c := 1) (by decide)) (by decide) (by decide)), ⟨by rw [ht]; exact hP9, hD9⟩⟩, hS.F ht⟩) hS.2.2 dX9_isKept_135
          · skip
            refine lv_lload_n hx hb dX9_isKept_40 rfl (lv_at hl 0 rfl) ?_
            refine lv_ldc2 (v := 512970880104) hx hb hown (hts (.constantLong RX9 171 (512970880104)) (List.mem_of_getElem? (i := 6) rfl)) dX9_isKept_41 ?_
            refine W.lcmp hx hb dX9_isKept_44 ?_
            refine lv_topi (fun x_16 ex_16 => ?_)
            refine lv_if_eq (tgt := 64) hx hb dX9_isKept_45 (by decide) (fun c_17 => ?_) (fun c_17 => ?_)
            · skip
              have h_18 : rg (0) (0) x_16 := by have ha := (rg_any x_16); have hb_ := (rg_k (x := 0) (c := 0) (by decide)); simp only [rg, fa_lt, fa_le, fa_eq, (by decide : (0 : Int32).toInt = 0)] at ha hb_ c_17; simp only [rg]; omega
              refine lv_iconst (v := 1) hx hb dX9_isKept_64 (by decide) ?_
              refine lv_goto (tgt := 69) hx hb dX9_isKept_65 (by decide) ?_
              refine lv_istore_n (lv' := [(2, .int 1), (0, .long y0)]) hx hb dX9_isKept_69 rfl hl (by decide) rfl (fun ls hl => ?_)
              refine lv_iload_n hx hb dX9_isKept_70 rfl (lv_at hl 0 rfl) ?_
              refine lv_if_ne (tgt := 130) hx hb dX9_isKept_71 (by decide) (fun _ => ?_) (fun cz => absurd cz (by decide))
              refine lv_iconst (v := 1) hx hb dX9_isKept_130 (by decide) ?_
              refine lv_goto (tgt := 135) hx hb dX9_isKept_131 (by decide) ?_
              have hP9 := hP.sub (ws' := []) [] rfl
              have hD9 := hD.sub (ws' := []) [] (by decide) rfl
              exact W.zret (v := 1) hx hb hr (rfl) (fun t ht hW => ⟨⟨1, (), rfl, (rg_mono (rg_k (x := 1) (c := 1) (by decide)) (by decide) (by decide)), ⟨by rw [ht]; exact hP9, hD9⟩⟩, hS.F ht⟩) hS.2.2 dX9_isKept_135
            · skip
              refine lv_lload_n hx hb dX9_isKept_48 rfl (lv_at hl 0 rfl) ?_
              refine lv_ldc2 (v := 126943972648308) hx hb hown (hts (.constantLong RX9 173 (126943972648308)) (List.mem_of_getElem? (i := 7) rfl)) dX9_isKept_49 ?_
              refine W.lcmp hx hb dX9_isKept_52 ?_
              refine lv_topi (fun x_19 ex_19 => ?_)
              refine lv_if_eq (tgt := 64) hx hb dX9_isKept_53 (by decide) (fun c_20 => ?_) (fun c_20 => ?_)
              · skip
                have h_21 : rg (0) (0) x_19 := by have ha := (rg_any x_19); have hb_ := (rg_k (x := 0) (c := 0) (by decide)); simp only [rg, fa_lt, fa_le, fa_eq, (by decide : (0 : Int32).toInt = 0)] at ha hb_ c_20; simp only [rg]; omega
                refine lv_iconst (v := 1) hx hb dX9_isKept_64 (by decide) ?_
                refine lv_goto (tgt := 69) hx hb dX9_isKept_65 (by decide) ?_
                refine lv_istore_n (lv' := [(2, .int 1), (0, .long y0)]) hx hb dX9_isKept_69 rfl hl (by decide) rfl (fun ls hl => ?_)
                refine lv_iload_n hx hb dX9_isKept_70 rfl (lv_at hl 0 rfl) ?_
                refine lv_if_ne (tgt := 130) hx hb dX9_isKept_71 (by decide) (fun _ => ?_) (fun cz => absurd cz (by decide))
                refine lv_iconst (v := 1) hx hb dX9_isKept_130 (by decide) ?_
                refine lv_goto (tgt := 135) hx hb dX9_isKept_131 (by decide) ?_
                have hP9 := hP.sub (ws' := []) [] rfl
                have hD9 := hD.sub (ws' := []) [] (by decide) rfl
                exact W.zret (v := 1) hx hb hr (rfl) (fun t ht hW => ⟨⟨1, (), rfl, (rg_mono (rg_k (x := 1) (c := 1) (by decide)) (by decide) (by decide)), ⟨by rw [ht]; exact hP9, hD9⟩⟩, hS.F ht⟩) hS.2.2 dX9_isKept_135
              · skip
                refine lv_lload_n hx hb dX9_isKept_56 rfl (lv_at hl 0 rfl) ?_
                refine lv_ldc2 (v := 7102839) hx hb hown (hts (.constantLong RX9 175 (7102839)) (List.mem_of_getElem? (i := 8) rfl)) dX9_isKept_57 ?_
                refine W.lcmp hx hb dX9_isKept_60 ?_
                refine lv_topi (fun x_22 ex_22 => ?_)
                refine lv_if_ne (tgt := 68) hx hb dX9_isKept_61 (by decide) (fun c_23 => ?_) (fun c_23 => ?_)
                · skip
                  refine lv_iconst (v := 0) hx hb dX9_isKept_68 (by decide) ?_
                  refine lv_istore_n (lv' := [(2, .int 0), (0, .long y0)]) hx hb dX9_isKept_69 rfl hl (by decide) rfl (fun ls hl => ?_)
                  refine lv_iload_n hx hb dX9_isKept_70 rfl (lv_at hl 0 rfl) ?_
                  refine lv_if_ne (tgt := 130) hx hb dX9_isKept_71 (by decide) (fun cz => absurd (by decide) cz) (fun _ => ?_)
                  refine lv_lload_n hx hb dX9_isKept_74 rfl (lv_at hl 1 rfl) ?_
                  refine lv_ldc2 (v := 465624852596) hx hb hown (hts (.constantLong RX9 177 (465624852596)) (List.mem_of_getElem? (i := 9) rfl)) dX9_isKept_75 ?_
                  refine W.lcmp hx hb dX9_isKept_78 ?_
                  refine lv_topi (fun x_24 ex_24 => ?_)
                  refine lv_if_eq (tgt := 130) hx hb dX9_isKept_79 (by decide) (fun c_25 => ?_) (fun c_25 => ?_)
                  · skip
                    have h_26 : rg (0) (0) x_24 := by have ha := (rg_any x_24); have hb_ := (rg_k (x := 0) (c := 0) (by decide)); simp only [rg, fa_lt, fa_le, fa_eq, (by decide : (0 : Int32).toInt = 0)] at ha hb_ c_25; simp only [rg]; omega
                    refine lv_iconst (v := 1) hx hb dX9_isKept_130 (by decide) ?_
                    refine lv_goto (tgt := 135) hx hb dX9_isKept_131 (by decide) ?_
                    have hP9 := hP.sub (ws' := []) [] rfl
                    have hD9 := hD.sub (ws' := []) [] (by decide) rfl
                    exact W.zret (v := 1) hx hb hr (rfl) (fun t ht hW => ⟨⟨1, (), rfl, (rg_mono (rg_k (x := 1) (c := 1) (by decide)) (by decide) (by decide)), ⟨by rw [ht]; exact hP9, hD9⟩⟩, hS.F ht⟩) hS.2.2 dX9_isKept_135
                  · skip
                    refine lv_lload_n hx hb dX9_isKept_82 rfl (lv_at hl 1 rfl) ?_
                    refine lv_ldc2 (v := 448377484921) hx hb hown (hts (.constantLong RX9 179 (448377484921)) (List.mem_of_getElem? (i := 10) rfl)) dX9_isKept_83 ?_
                    refine W.lcmp hx hb dX9_isKept_86 ?_
                    refine lv_topi (fun x_27 ex_27 => ?_)
                    refine lv_if_eq (tgt := 130) hx hb dX9_isKept_87 (by decide) (fun c_28 => ?_) (fun c_28 => ?_)
                    · skip
                      have h_29 : rg (0) (0) x_27 := by have ha := (rg_any x_27); have hb_ := (rg_k (x := 0) (c := 0) (by decide)); simp only [rg, fa_lt, fa_le, fa_eq, (by decide : (0 : Int32).toInt = 0)] at ha hb_ c_28; simp only [rg]; omega
                      refine lv_iconst (v := 1) hx hb dX9_isKept_130 (by decide) ?_
                      refine lv_goto (tgt := 135) hx hb dX9_isKept_131 (by decide) ?_
                      have hP9 := hP.sub (ws' := []) [] rfl
                      have hD9 := hD.sub (ws' := []) [] (by decide) rfl
                      exact W.zret (v := 1) hx hb hr (rfl) (fun t ht hW => ⟨⟨1, (), rfl, (rg_mono (rg_k (x := 1) (c := 1) (by decide)) (by decide) (by decide)), ⟨by rw [ht]; exact hP9, hD9⟩⟩, hS.F ht⟩) hS.2.2 dX9_isKept_135
                    · skip
                      refine lv_lload_n hx hb dX9_isKept_90 rfl (lv_at hl 1 rfl) ?_
                      refine lv_ldc2 (v := 495690081125) hx hb hown (hts (.constantLong RX9 181 (495690081125)) (List.mem_of_getElem? (i := 11) rfl)) dX9_isKept_91 ?_
                      refine W.lcmp hx hb dX9_isKept_94 ?_
                      refine lv_topi (fun x_30 ex_30 => ?_)
                      refine lv_if_eq (tgt := 130) hx hb dX9_isKept_95 (by decide) (fun c_31 => ?_) (fun c_31 => ?_)
                      · skip
                        have h_32 : rg (0) (0) x_30 := by have ha := (rg_any x_30); have hb_ := (rg_k (x := 0) (c := 0) (by decide)); simp only [rg, fa_lt, fa_le, fa_eq, (by decide : (0 : Int32).toInt = 0)] at ha hb_ c_31; simp only [rg]; omega
                        refine lv_iconst (v := 1) hx hb dX9_isKept_130 (by decide) ?_
                        refine lv_goto (tgt := 135) hx hb dX9_isKept_131 (by decide) ?_
                        have hP9 := hP.sub (ws' := []) [] rfl
                        have hD9 := hD.sub (ws' := []) [] (by decide) rfl
                        exact W.zret (v := 1) hx hb hr (rfl) (fun t ht hW => ⟨⟨1, (), rfl, (rg_mono (rg_k (x := 1) (c := 1) (by decide)) (by decide) (by decide)), ⟨by rw [ht]; exact hP9, hD9⟩⟩, hS.F ht⟩) hS.2.2 dX9_isKept_135
                      · skip
                        refine lv_lload_n hx hb dX9_isKept_98 rfl (lv_at hl 1 rfl) ?_
                        refine lv_ldc2 (v := 2036687218) hx hb hown (hts (.constantLong RX9 183 (2036687218)) (List.mem_of_getElem? (i := 12) rfl)) dX9_isKept_99 ?_
                        refine W.lcmp hx hb dX9_isKept_102 ?_
                        refine lv_topi (fun x_33 ex_33 => ?_)
                        refine lv_if_eq (tgt := 130) hx hb dX9_isKept_103 (by decide) (fun c_34 => ?_) (fun c_34 => ?_)
                        · skip
                          have h_35 : rg (0) (0) x_33 := by have ha := (rg_any x_33); have hb_ := (rg_k (x := 0) (c := 0) (by decide)); simp only [rg, fa_lt, fa_le, fa_eq, (by decide : (0 : Int32).toInt = 0)] at ha hb_ c_34; simp only [rg]; omega
                          refine lv_iconst (v := 1) hx hb dX9_isKept_130 (by decide) ?_
                          refine lv_goto (tgt := 135) hx hb dX9_isKept_131 (by decide) ?_
                          have hP9 := hP.sub (ws' := []) [] rfl
                          have hD9 := hD.sub (ws' := []) [] (by decide) rfl
                          exact W.zret (v := 1) hx hb hr (rfl) (fun t ht hW => ⟨⟨1, (), rfl, (rg_mono (rg_k (x := 1) (c := 1) (by decide)) (by decide) (by decide)), ⟨by rw [ht]; exact hP9, hD9⟩⟩, hS.F ht⟩) hS.2.2 dX9_isKept_135
                        · skip
                          refine lv_lload_n hx hb dX9_isKept_106 rfl (lv_at hl 1 rfl) ?_
                          refine lv_ldc2 (v := 6385252) hx hb hown (hts (.constantLong RX9 185 (6385252)) (List.mem_of_getElem? (i := 13) rfl)) dX9_isKept_107 ?_
                          refine W.lcmp hx hb dX9_isKept_110 ?_
                          refine lv_topi (fun x_36 ex_36 => ?_)
                          refine lv_if_eq (tgt := 130) hx hb dX9_isKept_111 (by decide) (fun c_37 => ?_) (fun c_37 => ?_)
                          · skip
                            have h_38 : rg (0) (0) x_36 := by have ha := (rg_any x_36); have hb_ := (rg_k (x := 0) (c := 0) (by decide)); simp only [rg, fa_lt, fa_le, fa_eq, (by decide : (0 : Int32).toInt = 0)] at ha hb_ c_37; simp only [rg]; omega
                            refine lv_iconst (v := 1) hx hb dX9_isKept_130 (by decide) ?_
                            refine lv_goto (tgt := 135) hx hb dX9_isKept_131 (by decide) ?_
                            have hP9 := hP.sub (ws' := []) [] rfl
                            have hD9 := hD.sub (ws' := []) [] (by decide) rfl
                            exact W.zret (v := 1) hx hb hr (rfl) (fun t ht hW => ⟨⟨1, (), rfl, (rg_mono (rg_k (x := 1) (c := 1) (by decide)) (by decide) (by decide)), ⟨by rw [ht]; exact hP9, hD9⟩⟩, hS.F ht⟩) hS.2.2 dX9_isKept_135
                          · skip
                            refine lv_lload_n hx hb dX9_isKept_114 rfl (lv_at hl 1 rfl) ?_
                            refine lv_ldc2 (v := 28530) hx hb hown (hts (.constantLong RX9 187 (28530)) (List.mem_of_getElem? (i := 14) rfl)) dX9_isKept_115 ?_
                            refine W.lcmp hx hb dX9_isKept_118 ?_
                            refine lv_topi (fun x_39 ex_39 => ?_)
                            refine lv_if_eq (tgt := 130) hx hb dX9_isKept_119 (by decide) (fun c_40 => ?_) (fun c_40 => ?_)
                            · skip
                              have h_41 : rg (0) (0) x_39 := by have ha := (rg_any x_39); have hb_ := (rg_k (x := 0) (c := 0) (by decide)); simp only [rg, fa_lt, fa_le, fa_eq, (by decide : (0 : Int32).toInt = 0)] at ha hb_ c_40; simp only [rg]; omega
                              refine lv_iconst (v := 1) hx hb dX9_isKept_130 (by decide) ?_
                              refine lv_goto (tgt := 135) hx hb dX9_isKept_131 (by decide) ?_
                              have hP9 := hP.sub (ws' := []) [] rfl
                              have hD9 := hD.sub (ws' := []) [] (by decide) rfl
                              exact W.zret (v := 1) hx hb hr (rfl) (fun t ht hW => ⟨⟨1, (), rfl, (rg_mono (rg_k (x := 1) (c := 1) (by decide)) (by decide) (by decide)), ⟨by rw [ht]; exact hP9, hD9⟩⟩, hS.F ht⟩) hS.2.2 dX9_isKept_135
                            · skip
                              refine lv_lload_n hx hb dX9_isKept_122 rfl (lv_at hl 1 rfl) ?_
                              refine lv_ldc2 (v := 7237492) hx hb hown (hts (.constantLong RX9 189 (7237492)) (List.mem_of_getElem? (i := 15) rfl)) dX9_isKept_123 ?_
                              refine W.lcmp hx hb dX9_isKept_126 ?_
                              refine lv_topi (fun x_42 ex_42 => ?_)
                              refine lv_if_ne (tgt := 134) hx hb dX9_isKept_127 (by decide) (fun c_43 => ?_) (fun c_43 => ?_)
                              · skip
                                refine lv_iconst (v := 0) hx hb dX9_isKept_134 (by decide) ?_
                                have hP9 := hP.sub (ws' := []) [] rfl
                                have hD9 := hD.sub (ws' := []) [] (by decide) rfl
                                exact W.zret (v := 0) hx hb hr (rfl) (fun t ht hW => ⟨⟨0, (), rfl, (rg_mono (rg_k (x := 0) (c := 0) (by decide)) (by decide) (by decide)), ⟨by rw [ht]; exact hP9, hD9⟩⟩, hS.F ht⟩) hS.2.2 dX9_isKept_135
                              · skip
                                have h_44 : rg (0) (0) x_42 := by have ha := (rg_any x_42); have hb_ := (rg_k (x := 0) (c := 0) (by decide)); simp only [rg, fa_lt, fa_le, fa_eq, (by decide : (0 : Int32).toInt = 0)] at ha hb_ c_43; simp only [rg]; omega
                                refine lv_iconst (v := 1) hx hb dX9_isKept_130 (by decide) ?_
                                refine lv_goto (tgt := 135) hx hb dX9_isKept_131 (by decide) ?_
                                have hP9 := hP.sub (ws' := []) [] rfl
                                have hD9 := hD.sub (ws' := []) [] (by decide) rfl
                                exact W.zret (v := 1) hx hb hr (rfl) (fun t ht hW => ⟨⟨1, (), rfl, (rg_mono (rg_k (x := 1) (c := 1) (by decide)) (by decide) (by decide)), ⟨by rw [ht]; exact hP9, hD9⟩⟩, hS.F ht⟩) hS.2.2 dX9_isKept_135
                · skip
                  have h_45 : rg (0) (0) x_22 := by have ha := (rg_any x_22); have hb_ := (rg_k (x := 0) (c := 0) (by decide)); simp only [rg, fa_lt, fa_le, fa_eq, (by decide : (0 : Int32).toInt = 0)] at ha hb_ c_23; simp only [rg]; omega
                  refine lv_iconst (v := 1) hx hb dX9_isKept_64 (by decide) ?_
                  refine lv_goto (tgt := 69) hx hb dX9_isKept_65 (by decide) ?_
                  refine lv_istore_n (lv' := [(2, .int 1), (0, .long y0)]) hx hb dX9_isKept_69 rfl hl (by decide) rfl (fun ls hl => ?_)
                  refine lv_iload_n hx hb dX9_isKept_70 rfl (lv_at hl 0 rfl) ?_
                  refine lv_if_ne (tgt := 130) hx hb dX9_isKept_71 (by decide) (fun _ => ?_) (fun cz => absurd cz (by decide))
                  refine lv_iconst (v := 1) hx hb dX9_isKept_130 (by decide) ?_
                  refine lv_goto (tgt := 135) hx hb dX9_isKept_131 (by decide) ?_
                  have hP9 := hP.sub (ws' := []) [] rfl
                  have hD9 := hD.sub (ws' := []) [] (by decide) rfl
                  exact W.zret (v := 1) hx hb hr (rfl) (fun t ht hW => ⟨⟨1, (), rfl, (rg_mono (rg_k (x := 1) (c := 1) (by decide)) (by decide) (by decide)), ⟨by rw [ht]; exact hP9, hD9⟩⟩, hS.F ht⟩) hS.2.2 dX9_isKept_135
