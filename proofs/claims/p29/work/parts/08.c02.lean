def v_s_X0_walk_k1 : List Cond := Cond.code yX0_walk cX0_walk 9 none :: ([Cond.methodLink RX0 81 yJ6_bitCount_0f7a4, Cond.static yJ6_bitCount_0f7a4, Cond.initialized RJ6, Cond.fieldLink RX0 37 "MayRings$Families" "size" "I", Cond.fieldLink RX0 67 "MayRings$Ways" "ground" "[I", Cond.fieldLink RX0 78 "MayRings$Ways" "pairs" "[I", Cond.fieldLink RX0 24 "MayRings$Families" "bits" "[I", Cond.methodLink RX0 70 yX0_walk, Cond.instanceMethod yX0_walk, Cond.selects RX0 yX0_walk yX0_walk, Cond.initialized RX0, Cond.methodLink RX0 87 yX0_close, Cond.instanceMethod yX0_close, Cond.selects RX0 yX0_close yX0_close] ++ (wsX00 ++ (wsX70 ++ (v_s_J6_bitCount_0f7a4_b9 ++ (v_s_X0_walk_k2 ++ (v_s_X0_close ++ ([])))))))
theorem k_s_X0_walk_k1 : GoodIn lw_tbl v_s_X0_walk_k1 := gd_c (List.mem_of_getElem? (i := 1051) (by decide +kernel)) rfl (goodIn_app (gd_c (List.mem_of_getElem? (i := 1052) (by decide +kernel)) rfl (gd_c (List.mem_of_getElem? (i := 878) (by decide +kernel)) rfl (gd_c (List.mem_of_getElem? (i := 147) (by decide +kernel)) rfl (gd_c (List.mem_of_getElem? (i := 508) (by decide +kernel)) rfl (gd_c (List.mem_of_getElem? (i := 441) (by decide +kernel)) rfl (gd_c (List.mem_of_getElem? (i := 444) (by decide +kernel)) rfl (gd_c (List.mem_of_getElem? (i := 504) (by decide +kernel)) rfl (gd_c (List.mem_of_getElem? (i := 1048) (by decide +kernel)) rfl (gd_c (List.mem_of_getElem? (i := 1050) (by decide +kernel)) rfl (gd_c (List.mem_of_getElem? (i := 56) (by decide +kernel)) rfl (gd_c (List.mem_of_getElem? (i := 143) (by decide +kernel)) rfl (gd_c (List.mem_of_getElem? (i := 1053) (by decide +kernel)) rfl (gd_c (List.mem_of_getElem? (i := 1055) (by decide +kernel)) rfl (gd_c (List.mem_of_getElem? (i := 57) (by decide +kernel)) rfl (gd_nil))))))))))))))) (goodIn_app kfX0 (goodIn_app kfX7 (goodIn_app k_s_J6_bitCount_0f7a4_b9 (goodIn_app k_s_X0_walk_k2 (goodIn_app k_s_X0_close (gd_nil)))))))
set_option maxHeartbeats 2000000 in
set_option maxRecDepth 100000 in
theorem c_s_X0_walk_k1 (l : Launch) (dC : Nat → ClassId) (dI : Nat → Nat → Nat) (cB cI cJ cZ cP : ClassId) (h0 : Nat) (h1 : Nat) (g0 : Nat → Int32) (h2 : Nat) (g1 : Nat → Int32) (h3 : Nat) (h4 : Nat) (g3 : Nat → Int32) (h5 : Nat) (g4 : Nat → Int32) (h6 : Nat) (a0 : Int32) (ha0 : rg (0) (2520) a0) (a1 : Int32) (a2 : Int32) (ha2 : rg (1) (7) a2) (a3 : Int32) (h7 : Nat) (h8 : Nat) (g6 : Nat → Int32) (hg6 : rgA (0) (511) g6) (h9 : Nat) (g7 : Nat → Int32) (hg7 : rgA (0) (511) g7) (h10 : Nat) (h11 : Nat) (h12 : Nat) (h13 : Nat) (a4 : Int32) (a5 : Int32) (a6 : Int32) (ha6 : rg (0) (1) a6) (a7 : Int32) (a8 : Int32) (a9 : Int32) (a10 : Int32) (a11 : Int32) (p1 : Int32) (hp1 : rg (0) (511) p1) (p2 : Int32) (hp2 : rg (0) (8) p2) (p3 : Int32) (p4 : Int32) (kr0 : nbA g1) (kr1 : bcE p1 = 1) (kr2 : nbk 1 p4) (sz : Nat) : Met l yX0_walk v_s_X0_walk_k1 ({ frames := 8, cells := 0, slots := 0, locals := 217 }) (va_Pc [.ref h0, .ref h7, .int p1, .int p2, .int p3, .int p4] (fun U => U.heap.size = sz ∧ va_P (dC, dI) vwCl [(h0, .inr (0, [.ref h1, .ref h2, .ref h3, .ref h4, .ref h5, .ref h6, .int a0, .int a1, .int a2, .int a3])), (h1, .inl (cI, 2520, .inl g0)), (h2, .inl (cI, 2520, .inl g1)), (h4, .inl (cI, 4096, .inl g3)), (h5, .inl (cI, 81, .inl g4)), (h7, .inr (7, [.ref h8, .ref h9, .ref h10, .ref h11, .ref h12, .ref h13, .int a4, .int a5, .int a6, .int a7, .int a8, .int a9, .int a10, .int a11])), (h8, .inl (cI, 9, .inl g6)), (h9, .inl (cI, 9, .inl g7))] U.heap ∧ va_K (dC, dI) vwCl (ty5 cB cI cJ cZ cP) U ∧ va_D (fun _ => True) [(h0, .inr (0, [.ref h1, .ref h2, .ref h3, .ref h4, .ref h5, .ref h6, .int a0, .int a1, .int a2, .int a3])), (h1, .inl (cI, 2520, .inl g0)), (h2, .inl (cI, 2520, .inl g1)), (h4, .inl (cI, 4096, .inl g3)), (h5, .inl (cI, 81, .inl g4)), (h7, .inr (7, [.ref h8, .ref h9, .ref h10, .ref h11, .ref h12, .ref h13, .int a4, .int a5, .int a6, .int a7, .int a8, .int a9, .int a10, .int a11])), (h8, .inl (cI, 9, .inl g6)), (h9, .inl (cI, 9, .inl g7))])) (va_Qv (fun _ : Unit => True) (fun _ t => ∃ (z0 : Int32) (z1 : Int32) (z2 : Nat → Int32) (z3 : Nat → Int32) (z4 : Nat → Int32), rg (0) (2520) z0 ∧ (nbA z3) ∧ va_P (dC, dI) vwCl [(h0, .inr (0, [.ref h1, .ref h2, .ref h3, .ref h4, .ref h5, .ref h6, .int z0, .int a1, .int a2, .int z1])), (h1, .inl (cI, 2520, .inl z2)), (h2, .inl (cI, 2520, .inl z3)), (h4, .inl (cI, 4096, .inl z4)), (h5, .inl (cI, 81, .inl g4)), (h7, .inr (7, [.ref h8, .ref h9, .ref h10, .ref h11, .ref h12, .ref h13, .int a4, .int a5, .int a6, .int a7, .int a8, .int a9, .int a10, .int a11])), (h8, .inl (cI, 9, .inl g6)), (h9, .inl (cI, 9, .inl g7))] t.heap ∧ va_D (va_A [(h0, .inr (0, [.ref h1, .ref h2, .ref h3, .ref h4, .ref h5, .ref h6, .int a0, .int a1, .int a2, .int a3])), (h1, .inl (cI, 2520, .inl g0)), (h2, .inl (cI, 2520, .inl g1)), (h4, .inl (cI, 4096, .inl g3)), (h5, .inl (cI, 81, .inl g4)), (h7, .inr (7, [.ref h8, .ref h9, .ref h10, .ref h11, .ref h12, .ref h13, .int a4, .int a5, .int a6, .int a7, .int a8, .int a9, .int a10, .int a11])), (h8, .inl (cI, 9, .inl g6)), (h9, .inl (cI, 9, .inl g7))] sz) [(h0, .inr (0, [.ref h1, .ref h2, .ref h3, .ref h4, .ref h5, .ref h6, .int z0, .int a1, .int a2, .int z1])), (h1, .inl (cI, 2520, .inl z2)), (h2, .inl (cI, 2520, .inl z3)), (h4, .inl (cI, 4096, .inl z4)), (h5, .inl (cI, 81, .inl g4)), (h7, .inr (7, [.ref h8, .ref h9, .ref h10, .ref h11, .ref h12, .ref h13, .int a4, .int a5, .int a6, .int a7, .int a8, .int a9, .int a10, .int a11])), (h8, .inl (cI, 9, .inl g6)), (h9, .inl (cI, 9, .inl g7))]) (va_A [(h0, .inr (0, [.ref h1, .ref h2, .ref h3, .ref h4, .ref h5, .ref h6, .int a0, .int a1, .int a2, .int a3])), (h1, .inl (cI, 2520, .inl g0)), (h2, .inl (cI, 2520, .inl g1)), (h4, .inl (cI, 4096, .inl g3)), (h5, .inl (cI, 81, .inl g4)), (h7, .inr (7, [.ref h8, .ref h9, .ref h10, .ref h11, .ref h12, .ref h13, .int a4, .int a5, .int a6, .int a7, .int a8, .int a9, .int a10, .int a11])), (h8, .inl (cI, 9, .inl g6)), (h9, .inl (cI, 9, .inl g7))] sz)) 0 0 (va_A [(h0, .inr (0, [.ref h1, .ref h2, .ref h3, .ref h4, .ref h5, .ref h6, .int a0, .int a1, .int a2, .int a3])), (h1, .inl (cI, 2520, .inl g0)), (h2, .inl (cI, 2520, .inl g1)), (h4, .inl (cI, 4096, .inl g3)), (h5, .inl (cI, 81, .inl g4)), (h7, .inr (7, [.ref h8, .ref h9, .ref h10, .ref h11, .ref h12, .ref h13, .int a4, .int a5, .int a6, .int a7, .int a8, .int a9, .int a10, .int a11])), (h8, .inl (cI, 9, .inl g6)), (h9, .inl (cI, 9, .inl g7))] sz) := by
  refine Met.ofW (cc := cX0_walk) (maxL := 9) (ret := none) (by decide) rfl ?_
  intro p e s m args below meth c s₁ B hml hv
  obtain ⟨rfl, hsz, hP, hK, hD0⟩ := hv
  have hx := B.exec
  have hb := B.bytes
  have hr := B.returns
  have hts := atoms_spec (ws := v_s_X0_walk_k1) B.pre
  have hown : s.vm.findClass RX0 = some m.cls := findClass_of_methodNamed B.named
  have hlocks := B.notSynchronized
  have hinX0 : ∀ w ∈ wsX00, w ∈ v_s_X0_walk_k1 := fun _ h => List.mem_cons_of_mem _ (List.mem_append_right _ (List.mem_append_left _ h))
  have hinX7 : ∀ w ∈ wsX70, w ∈ v_s_X0_walk_k1 := fun _ h => List.mem_cons_of_mem _ (List.mem_append_right _ (List.mem_append_right _ (List.mem_append_left _ h)))
  subst hsz
  have hD := hD0.self (sz := s.heap.size)
  generalize hAe : va_A [(h0, .inr (0, [.ref h1, .ref h2, .ref h3, .ref h4, .ref h5, .ref h6, .int a0, .int a1, .int a2, .int a3])), (h1, .inl (cI, 2520, .inl g0)), (h2, .inl (cI, 2520, .inl g1)), (h4, .inl (cI, 4096, .inl g3)), (h5, .inl (cI, 81, .inl g4)), (h7, .inr (7, [.ref h8, .ref h9, .ref h10, .ref h11, .ref h12, .ref h13, .int a4, .int a5, .int a6, .int a7, .int a8, .int a9, .int a10, .int a11])), (h8, .inl (cI, 9, .inl g6)), (h9, .inl (cI, 9, .inl g7))] s.heap.size = A at hD ⊢
  have hA : ∀ q : Nat, s.heap.size ≤ q → A q := fun q h => by rw [← hAe]; exact Or.inr h
  have hP : va_P (dC, dI) vwCl [(h0, .inr (0, [.ref h1, .ref h2, .ref h3, .ref h4, .ref h5, .ref h6, .int a0, .int a1, .int a2, .int a3])), (h1, .inl (cI, 2520, .inl g0)), (h2, .inl (cI, 2520, .inl g1)), (h4, .inl (cI, 4096, .inl g3)), (h5, .inl (cI, 81, .inl g4)), (h7, .inr (7, [.ref h8, .ref h9, .ref h10, .ref h11, .ref h12, .ref h13, .int a4, .int a5, .int a6, .int a7, .int a8, .int a9, .int a10, .int a11])), (h8, .inl (cI, 9, .inl g6)), (h9, .inl (cI, 9, .inl g7))] s.heap := hP
  have hl := lv_entry ([.ref h0, .ref h7, .int p1, .int p2, .int p3, .int p4]) (n := 9) (Nat.le_of_ble_eq_true rfl)
  rw [lg_entry_eq]
  generalize (lg_sl ([.ref h0, .ref h7, .int p1, .int p2, .int p3, .int p4]) ++ List.replicate (9 - (lg_sl ([.ref h0, .ref h7, .int p1, .int p2, .int p3, .int p4])).length) Slot.unset).toArray = ls at hl ⊢
  have hl : lv_has ls 9 [(0, .ref h0), (1, .ref h7), (2, .int p1), (3, .int p2), (4, .int p3), (5, .int p4)] := hl
  refine W_gen (A := A) hP (fun H locs hP hS => ?_)
  refine lv_iload_n hx hb dX0_walk_0 rfl (lv_at hl 2 rfl) ?_
  have hPc := hP.sub (ws' := []) [] rfl
  have hDc := hD.sub (ws' := []) [] (by decide) rfl
  have hFc := va_free (wc := []) hD hS hA [] rfl
  refine va_calli (va_runS (As := [.int p1]) (rest := []) ⟨hx, hb, hml, hown, hts⟩ (c_s_J6_bitCount_0f7a4_b9 l dC dI cB cI cJ cZ cP p1 (rg_mono hp1 (by decide) (by decide)) H.size) (va_cwS 1 hts (gd_S (List.mem_of_getElem? (i := 1) rfl) (List.mem_of_getElem? (i := 2) rfl) (List.mem_of_getElem? (i := 3) rfl) (gd_mono k_s_J6_bitCount_0f7a4_b9 (fun _ h => List.mem_cons_of_mem _ (List.mem_append_right _ (List.mem_append_right _ (List.mem_append_right _ (List.mem_append_left _ h))))))) rfl rfl rfl (by decide +kernel) ⟨Nat.le_of_ble_eq_true rfl, Nat.le_of_ble_eq_true rfl⟩) ⟨fun a U g mk q => by obtain ⟨q0, q1, qP, qK, qD⟩ := q; exact ⟨q0, q1, qP, va_K.moved (u := U) (U := U.calling g mk a) (Vm.Alike.refl U.vm) qK, qD⟩, fun U hU hW => ⟨rfl, by rw [hU], by rw [hU]; exact hPc, va_K.moved hW.alike hK, hDc.weaken (fun _ _ _ _ => trivial)⟩⟩ rfl rfl hl.1 rfl (lv_room (Nat.le_of_ble_eq_true rfl)) dX0_walk_1 ⟨Nat.le_of_ble_eq_true rfl, Nat.le_of_ble_eq_true rfl⟩) hS (fun q _ h => hFc q h) hFc (fun r_1 u t H1 locs ht hvm hw hB hz1 hk1 hS => ?_)
  obtain ⟨hu9, hw⟩ := hw
  rw [hu9] at hB
  clear hu9
  obtain ⟨k_2, hP1, hD1⟩ := hB
  rw [ht] at hP1
  obtain ⟨hP, hD⟩ := va_join (wr := [(h0, .inr (0, [.ref h1, .ref h2, .ref h3, .ref h4, .ref h5, .ref h6, .int a0, .int a1, .int a2, .int a3])), (h1, .inl (cI, 2520, .inl g0)), (h2, .inl (cI, 2520, .inl g1)), (h4, .inl (cI, 4096, .inl g3)), (h5, .inl (cI, 81, .inl g4)), (h7, .inr (7, [.ref h8, .ref h9, .ref h10, .ref h11, .ref h12, .ref h13, .int a4, .int a5, .int a6, .int a7, .int a8, .int a9, .int a10, .int a11])), (h8, .inl (cI, 9, .inl g6)), (h9, .inl (cI, 9, .inl g7))]) (w1 := []) hP hD [] [0, 1, 2, 3, 4, 5, 6, 7] rfl rfl (by decide) (by decide) hk1 hFc hP1 hD1
  generalize H1 = H at hP hS ⊢
  replace hP : va_P (dC, dI) vwCl [(h0, .inr (0, [.ref h1, .ref h2, .ref h3, .ref h4, .ref h5, .ref h6, .int a0, .int a1, .int a2, .int a3])), (h1, .inl (cI, 2520, .inl g0)), (h2, .inl (cI, 2520, .inl g1)), (h4, .inl (cI, 4096, .inl g3)), (h5, .inl (cI, 81, .inl g4)), (h7, .inr (7, [.ref h8, .ref h9, .ref h10, .ref h11, .ref h12, .ref h13, .int a4, .int a5, .int a6, .int a7, .int a8, .int a9, .int a10, .int a11])), (h8, .inl (cI, 9, .inl g6)), (h9, .inl (cI, 9, .inl g7))] H := hP
  replace hD : va_D A [(h0, .inr (0, [.ref h1, .ref h2, .ref h3, .ref h4, .ref h5, .ref h6, .int a0, .int a1, .int a2, .int a3])), (h1, .inl (cI, 2520, .inl g0)), (h2, .inl (cI, 2520, .inl g1)), (h4, .inl (cI, 4096, .inl g3)), (h5, .inl (cI, 81, .inl g4)), (h7, .inr (7, [.ref h8, .ref h9, .ref h10, .ref h11, .ref h12, .ref h13, .int a4, .int a5, .int a6, .int a7, .int a8, .int a9, .int a10, .int a11])), (h8, .inl (cI, 9, .inl g6)), (h9, .inl (cI, 9, .inl g7))] := hD
  have hr_1 : rg (0) (9) r_1 := hw.1
  have kr_1_0 : rg (0) (8) r_1 → rg (0) (510) p1 := hw.2
  refine tp_v (.int 1) (congrArg Value.int (k_2.trans kr1)) ?_
  refine lv_istore (lv' := [(6, .int 1), (0, .ref h0), (1, .ref h7), (2, .int p1), (3, .int p2), (4, .int p3), (5, .int p4)]) hx hb dX0_walk_4 hl (by decide) rfl (fun ls hl => ?_)
  refine lv_iload hx hb dX0_walk_6 (lv_at hl 0 rfl) ?_
  refine lv_aload_n hx hb dX0_walk_8 rfl (lv_at hl 1 rfl) ?_
  refine va_get (D := (dC, dI)) (ci := 0) (v := .int a2) (C := RX0) (T := TX0) (N := 10) hx hb hts hinX0 hown hK hP 0 rfl rfl 8 (by decide) (hts (.fieldLink RX0 37 "MayRings$Families" "size" "I") (List.mem_of_getElem? (i := 4) rfl)) (fun _ h9 => h9) rfl dX0_walk_9 ?_
  refine lv_icmp_lt (tgt := 26) hx hb dX0_walk_12 (by decide) (fun c_3 => ?_) (fun c_3 => ?_)
  · skip
    have h_4 : rg (2) (7) a2 := by have ha := (rg_k (x := 1) (c := 1) (by decide)); have hb_ := ha2; simp only [rg, fa_lt, fa_le, fa_eq, (by decide : (1 : Int32).toInt = 1)] at ha hb_ c_3; simp only [rg]; omega
    refine lv_aload_n hx hb dX0_walk_26 rfl (lv_at hl 2 rfl) ?_
    refine va_get (D := (dC, dI)) (ci := 7) (v := .ref h8) (C := RX7) (T := TX7) (N := 14) hx hb hts hinX7 hown hK hP 5 rfl rfl 0 (by decide) (hts (.fieldLink RX0 67 "MayRings$Ways" "ground" "[I") (List.mem_of_getElem? (i := 5) rfl)) (fun _ h9 => h9) rfl dX0_walk_27 ?_
    refine lv_iload hx hb dX0_walk_30 (lv_at hl 0 rfl) ?_
    refine va_iald hx hb hK hP 6 1 rfl rfl (rg_in (n := 9) (rg_mono (rg_k (x := 1) (c := 1) (by decide)) (by decide) (by decide))) dX0_walk_32 ?_
    refine lv_topi (fun x_5 ex_5 => ?_)
    have hx_5 : rg (0) (511) x_5 := by rw [ex_5]; exact rg_mono (hg6 _) (by decide) (by decide)
    refine lv_aload_n hx hb dX0_walk_33 rfl (lv_at hl 2 rfl) ?_
    refine va_get (D := (dC, dI)) (ci := 7) (v := .ref h9) (C := RX7) (T := TX7) (N := 14) hx hb hts hinX7 hown hK hP 5 rfl rfl 1 (by decide) (hts (.fieldLink RX0 78 "MayRings$Ways" "pairs" "[I") (List.mem_of_getElem? (i := 6) rfl)) (fun _ h9 => h9) rfl dX0_walk_34 ?_
    refine lv_iload_n hx hb dX0_walk_37 rfl (lv_at hl 4 rfl) ?_
    refine va_iald hx hb hK hP 7 1 rfl rfl (rg_in (n := 9) (rg_mono hp2 (by decide) (by decide))) dX0_walk_38 ?_
    refine lv_topi (fun x_6 ex_6 => ?_)
    have hx_6 : rg (0) (511) x_6 := by rw [ex_6]; exact rg_mono (hg7 _) (by decide) (by decide)
    refine lv_iand hx hb dX0_walk_39 ?_
    refine lv_topi (fun x_7 ex_7 => ?_)
    have hx_7 : rg (0) (511) x_7 := by rw [ex_7]; exact rg_mono (rg_andl (b := 511) (rg_mono hx_5 (by decide) (by decide))) (by decide) (by decide)
    have kx_7_0 : rg 1 2147483647 x_7 → rg 1 (511) x_5 := fun hq => rg_andP hx_5 (ex_7 ▸ hq)
    have kx_7_1 : rg 1 2147483647 x_7 → rg 1 (511) x_6 := fun hq => rg_andP' hx_6 (ex_7 ▸ hq)
    refine lv_iload_n hx hb dX0_walk_40 rfl (lv_at hl 3 rfl) ?_
    refine lv_iconst (v := (-1)) hx hb dX0_walk_41 (by decide) ?_
    refine lv_ixor hx hb dX0_walk_42 ?_
    refine lv_topi (fun x_8 ex_8 => ?_)
    refine lv_iand hx hb dX0_walk_43 ?_
    refine lv_topi (fun x_9 ex_9 => ?_)
    have hx_9 : rg (0) (511) x_9 := by rw [ex_9]; exact rg_mono (rg_andl (b := 511) (rg_mono hx_7 (by decide) (by decide))) (by decide) (by decide)
    have kx_9_0 : rg 1 2147483647 x_9 → rg 1 (511) x_7 := fun hq => rg_andP hx_7 (ex_9 ▸ hq)
    refine lv_istore (lv' := [(7, .int x_9), (6, .int 1), (0, .ref h0), (1, .ref h7), (2, .int p1), (3, .int p2), (4, .int p3), (5, .int p4)]) hx hb dX0_walk_44 hl (by decide) rfl (fun ls hl => ?_)
    refine lv_iconst (v := 0) hx hb dX0_walk_46 (by decide) ?_
    refine lv_istore (lv' := [(8, .int 0), (7, .int x_9), (6, .int 1), (0, .ref h0), (1, .ref h7), (2, .int p1), (3, .int p2), (4, .int p3), (5, .int p4)]) hx hb dX0_walk_47 hl (by decide) rfl (fun ls hl => ?_)
    refine W_loopM (σ := Int32 × (Nat → Int32) × (Nat → Int32) × (Nat → Int32) × Int32 × Int32) (fun u H locs ls => va_P (dC, dI) vwCl [(h0, .inr (0, [.ref h1, .ref h2, .ref h3, .ref h4, .ref h5, .ref h6, .int u.2.2.2.2.1, .int a1, .int a2, .int u.2.2.2.2.2])), (h1, .inl (cI, 2520, .inl u.2.1)), (h2, .inl (cI, 2520, .inl u.2.2.1)), (h4, .inl (cI, 4096, .inl u.2.2.2.1)), (h5, .inl (cI, 81, .inl g4)), (h7, .inr (7, [.ref h8, .ref h9, .ref h10, .ref h11, .ref h12, .ref h13, .int a4, .int a5, .int a6, .int a7, .int a8, .int a9, .int a10, .int a11])), (h8, .inl (cI, 9, .inl g6)), (h9, .inl (cI, 9, .inl g7))] H ∧ va_D A [(h0, .inr (0, [.ref h1, .ref h2, .ref h3, .ref h4, .ref h5, .ref h6, .int u.2.2.2.2.1, .int a1, .int a2, .int u.2.2.2.2.2])), (h1, .inl (cI, 2520, .inl u.2.1)), (h2, .inl (cI, 2520, .inl u.2.2.1)), (h4, .inl (cI, 4096, .inl u.2.2.2.1)), (h5, .inl (cI, 81, .inl g4)), (h7, .inr (7, [.ref h8, .ref h9, .ref h10, .ref h11, .ref h12, .ref h13, .int a4, .int a5, .int a6, .int a7, .int a8, .int a9, .int a10, .int a11])), (h8, .inl (cI, 9, .inl g6)), (h9, .inl (cI, 9, .inl g7))] ∧ va_S A s.heap H locs ∧ lv_has ls 9 [(8, .int u.1), (7, .int x_9), (6, .int 1), (0, .ref h0), (1, .ref h7), (2, .int p1), (3, .int p2), (4, .int p3), (5, .int p4)] ∧ rg (0) (9) u.1 ∧ rg (0) (2520) u.2.2.2.2.1 ∧ (nbA u.2.2.1)) (fun u => ((9) - u.1.toInt).toNat) 49 [] ?_ (0, g0, g1, g3, a0, a3) H locs ls ⟨hP, hD, hS, hl, (rg_mono (rg_k (x := 0) (c := 0) (by decide)) (by decide) (by decide)), (rg_mono ha0 (by decide) (by decide)), kr0⟩
    rintro ⟨x_305, f_306, f_307, f_308, x_309, x_310⟩ H locs ls ⟨hP, hD, hS, hl, hx_305, hx_309, kl49_310_0⟩ ih_341
    replace kl49_310_0 : nbA f_307 := kl49_310_0
    replace hP : va_P (dC, dI) vwCl [(h0, .inr (0, [.ref h1, .ref h2, .ref h3, .ref h4, .ref h5, .ref h6, .int x_309, .int a1, .int a2, .int x_310])), (h1, .inl (cI, 2520, .inl f_306)), (h2, .inl (cI, 2520, .inl f_307)), (h4, .inl (cI, 4096, .inl f_308)), (h5, .inl (cI, 81, .inl g4)), (h7, .inr (7, [.ref h8, .ref h9, .ref h10, .ref h11, .ref h12, .ref h13, .int a4, .int a5, .int a6, .int a7, .int a8, .int a9, .int a10, .int a11])), (h8, .inl (cI, 9, .inl g6)), (h9, .inl (cI, 9, .inl g7))] H := hP
    replace hD : va_D A [(h0, .inr (0, [.ref h1, .ref h2, .ref h3, .ref h4, .ref h5, .ref h6, .int x_309, .int a1, .int a2, .int x_310])), (h1, .inl (cI, 2520, .inl f_306)), (h2, .inl (cI, 2520, .inl f_307)), (h4, .inl (cI, 4096, .inl f_308)), (h5, .inl (cI, 81, .inl g4)), (h7, .inr (7, [.ref h8, .ref h9, .ref h10, .ref h11, .ref h12, .ref h13, .int a4, .int a5, .int a6, .int a7, .int a8, .int a9, .int a10, .int a11])), (h8, .inl (cI, 9, .inl g6)), (h9, .inl (cI, 9, .inl g7))] := hD
    replace hl : lv_has ls 9 [(8, .int x_305), (7, .int x_9), (6, .int 1), (0, .ref h0), (1, .ref h7), (2, .int p1), (3, .int p2), (4, .int p3), (5, .int p4)] := hl
    replace hx_305 : rg (0) (9) x_305 := hx_305
    replace hx_309 : rg (0) (2520) x_309 := hx_309
    refine lv_iload hx hb dX0_walk_49 (lv_at hl 0 rfl) ?_
    refine lv_bipush (v := 9) hx hb dX0_walk_51 (by decide) ?_
    refine lv_icmp_ge (tgt := 111) hx hb dX0_walk_53 (by decide) (fun c_342 => ?_) (fun c_342 => ?_)
    · skip
      have h_343 : rg (9) (9) x_305 := by have ha := hx_305; have hb_ := (rg_k (x := 9) (c := 9) (by decide)); simp only [rg, fa_lt, fa_le, fa_eq, (by decide : (9 : Int32).toInt = 9)] at ha hb_ c_342; simp only [rg]; omega
      have hP9 := hP.sub (ws' := [(h0, .inr (0, [.ref h1, .ref h2, .ref h3, .ref h4, .ref h5, .ref h6, .int x_309, .int a1, .int a2, .int x_310])), (h1, .inl (cI, 2520, .inl f_306)), (h2, .inl (cI, 2520, .inl f_307)), (h4, .inl (cI, 4096, .inl f_308)), (h5, .inl (cI, 81, .inl g4)), (h7, .inr (7, [.ref h8, .ref h9, .ref h10, .ref h11, .ref h12, .ref h13, .int a4, .int a5, .int a6, .int a7, .int a8, .int a9, .int a10, .int a11])), (h8, .inl (cI, 9, .inl g6)), (h9, .inl (cI, 9, .inl g7))]) [0, 1, 2, 3, 4, 5, 6, 7] rfl
      have hD9 := hD.sub (ws' := [(h0, .inr (0, [.ref h1, .ref h2, .ref h3, .ref h4, .ref h5, .ref h6, .int x_309, .int a1, .int a2, .int x_310])), (h1, .inl (cI, 2520, .inl f_306)), (h2, .inl (cI, 2520, .inl f_307)), (h4, .inl (cI, 4096, .inl f_308)), (h5, .inl (cI, 81, .inl g4)), (h7, .inr (7, [.ref h8, .ref h9, .ref h10, .ref h11, .ref h12, .ref h13, .int a4, .int a5, .int a6, .int a7, .int a8, .int a9, .int a10, .int a11])), (h8, .inl (cI, 9, .inl g6)), (h9, .inl (cI, 9, .inl g7))]) [0, 1, 2, 3, 4, 5, 6, 7] (by decide) rfl
      exact W.vret hx hb hr (fun t ht hW => ⟨⟨(), rfl, trivial, ⟨x_309, x_310, f_306, f_307, f_308, (rg_mono hx_309 (by decide) (by decide)), kl49_310_0, by rw [ht]; exact hP9, hD9⟩⟩, hS.F ht⟩) hS.2.2 dX0_walk_111
    · skip
      have h_344 : rg (0) (8) x_305 := by have ha := hx_305; have hb_ := (rg_k (x := 9) (c := 9) (by decide)); simp only [rg, fa_lt, fa_le, fa_eq, (by decide : (9 : Int32).toInt = 9)] at ha hb_ c_342; simp only [rg]; omega
      refine lv_iload hx hb dX0_walk_56 (lv_at hl 1 rfl) ?_
      refine lv_iload hx hb dX0_walk_58 (lv_at hl 0 rfl) ?_
      refine lv_ishr hx hb dX0_walk_60 ?_
      refine lv_topi (fun x_345 ex_345 => ?_)
      have hx_345 : rg (0) (511) x_345 := by rw [ex_345]; exact rg_mono (rg_shr (b := 511) (rg_mono hx_9 (by decide) (by decide))) (by decide) (by decide)
      have kx_345_0 : rg 1 2147483647 x_345 → rg 1 (511) x_9 := fun hq => rg_shrP hx_9 (ex_345 ▸ hq)
      refine lv_iconst (v := 1) hx hb dX0_walk_61 (by decide) ?_
      refine lv_iand hx hb dX0_walk_62 ?_
      refine lv_topi (fun x_346 ex_346 => ?_)
      have hx_346 : rg (0) (1) x_346 := by rw [ex_346]; exact rg_mono (rg_andr (b := 1) (rg_mono (rg_k (x := 1) (c := 1) (by decide)) (by decide) (by decide))) (by decide) (by decide)
      have kx_346_0 : rg 1 2147483647 x_346 → rg 1 (511) x_345 := fun hq => rg_andP hx_345 (ex_346 ▸ hq)
      refine lv_iconst (v := 1) hx hb dX0_walk_63 (by decide) ?_
      refine lv_icmp_ne (tgt := 105) hx hb dX0_walk_64 (by decide) (fun c_347 => ?_) (fun c_347 => ?_)
      · skip
        have h_348 : rg (0) (0) x_346 := by have ha := hx_346; have hb_ := (rg_k (x := 1) (c := 1) (by decide)); simp only [rg, fa_lt, fa_le, fa_eq, (by decide : (1 : Int32).toInt = 1)] at ha hb_ c_347; simp only [rg]; omega
        obtain ⟨x_349, ex_349⟩ : ∃ y : Int32, y = x_305 + Int32.ofInt (1) := ⟨_, rfl⟩
        have hx_349 : rg (1) (9) x_349 := by rw [ex_349]; exact rg_mono (rg_add h_344 (rg_k (x := Int32.ofInt (1)) (c := 1) (by decide)) (by decide) (by decide)) (by decide) (by decide)
        have qx_349 : x_349.toInt = x_305.toInt + (1) := by rw [ex_349]; exact rg_addE h_344 (rg_k (x := Int32.ofInt (1)) (c := 1) (by decide)) (by decide) (by decide) (by decide)
        refine lv_iinc (v := x_349) (lv' := [(8, .int x_349), (7, .int x_9), (6, .int 1), (0, .ref h0), (1, .ref h7), (2, .int p1), (3, .int p2), (4, .int p3), (5, .int p4)]) hx hb dX0_walk_105 hl (k := 0) rfl (ex_349.symm) (by decide) rfl (fun ls hl => ?_)
        clear ex_349
        refine lv_goto (tgt := 49) hx hb dX0_walk_108 (by decide) ?_
        exact ih_341 (x_349, f_306, f_307, f_308, x_309, x_310) H locs ls ⟨hP.sub (ws' := [(h0, .inr (0, [.ref h1, .ref h2, .ref h3, .ref h4, .ref h5, .ref h6, .int x_309, .int a1, .int a2, .int x_310])), (h1, .inl (cI, 2520, .inl f_306)), (h2, .inl (cI, 2520, .inl f_307)), (h4, .inl (cI, 4096, .inl f_308)), (h5, .inl (cI, 81, .inl g4)), (h7, .inr (7, [.ref h8, .ref h9, .ref h10, .ref h11, .ref h12, .ref h13, .int a4, .int a5, .int a6, .int a7, .int a8, .int a9, .int a10, .int a11])), (h8, .inl (cI, 9, .inl g6)), (h9, .inl (cI, 9, .inl g7))]) [0, 1, 2, 3, 4, 5, 6, 7] rfl, hD.sub (ws' := [(h0, .inr (0, [.ref h1, .ref h2, .ref h3, .ref h4, .ref h5, .ref h6, .int x_309, .int a1, .int a2, .int x_310])), (h1, .inl (cI, 2520, .inl f_306)), (h2, .inl (cI, 2520, .inl f_307)), (h4, .inl (cI, 4096, .inl f_308)), (h5, .inl (cI, 81, .inl g4)), (h7, .inr (7, [.ref h8, .ref h9, .ref h10, .ref h11, .ref h12, .ref h13, .int a4, .int a5, .int a6, .int a7, .int a8, .int a9, .int a10, .int a11])), (h8, .inl (cI, 9, .inl g6)), (h9, .inl (cI, 9, .inl g7))]) [0, 1, 2, 3, 4, 5, 6, 7] (by decide) rfl, hS, lv_sub hl [0, 1, 2, 3, 4, 5, 6, 7, 8] rfl, (rg_mono hx_349 (by decide) (by decide)), (rg_mono hx_309 (by decide) (by decide)), kl49_310_0⟩ (by show ((9) - x_349.toInt).toNat < ((9) - x_305.toInt).toNat; have ha := h_344; simp only [rg] at ha; omega)
      · skip
        have h_350 : rg (1) (1) x_346 := by have ha := hx_346; have hb_ := (rg_k (x := 1) (c := 1) (by decide)); simp only [rg, fa_lt, fa_le, fa_eq, (by decide : (1 : Int32).toInt = 1)] at ha hb_ c_347; simp only [rg]; omega
        have h_351 : rg (1) (511) x_345 := rg_meet hx_345 (kx_346_0 (rg_mono h_350 (by decide) (by decide))) (by decide) (by decide)
        have h_352 : rg (1) (511) x_9 := rg_meet hx_9 (kx_345_0 (rg_mono h_351 (by decide) (by decide))) (by decide) (by decide)
        have h_353 : rg (1) (511) x_7 := rg_meet hx_7 (kx_9_0 (rg_mono h_352 (by decide) (by decide))) (by decide) (by decide)
        have h_354 : rg (1) (511) x_5 := rg_meet hx_5 (kx_7_0 (rg_mono h_353 (by decide) (by decide))) (by decide) (by decide)
        have h_355 : rg (1) (511) x_6 := rg_meet hx_6 (kx_7_1 (rg_mono h_353 (by decide) (by decide))) (by decide) (by decide)
        refine lv_aload_n hx hb dX0_walk_67 rfl (lv_at hl 3 rfl) ?_
        refine lv_aload_n hx hb dX0_walk_68 rfl (lv_at hl 4 rfl) ?_
        refine lv_iload_n hx hb dX0_walk_69 rfl (lv_at hl 5 rfl) ?_
        refine lv_iconst (v := 1) hx hb dX0_walk_70 (by decide) ?_
        refine lv_iload hx hb dX0_walk_71 (lv_at hl 0 rfl) ?_
        refine lv_ishl hx hb dX0_walk_73 ?_
        refine lv_topi (fun x_356 ex_356 => ?_)
        have hx_356 : rg (1) (256) x_356 := by rw [ex_356]; exact rg_mono (rg_shl1 8 (rg_mono h_344 (by decide) (by decide)) (by decide)) (by decide) (by decide)
        refine lv_ior hx hb dX0_walk_74 ?_
        refine lv_topi (fun x_357 ex_357 => ?_)
        have hx_357 : rg (0) (511) x_357 := by rw [ex_357]; exact rg_mono (rg_or 9 (rg_mono hp1 (by decide) (by decide)) (rg_mono hx_356 (by decide) (by decide)) (by decide)) (by decide) (by decide)
        refine lv_iload hx hb dX0_walk_75 (lv_at hl 0 rfl) ?_
        refine lv_iload hx hb dX0_walk_77 (lv_at hl 7 rfl) ?_
        refine lv_aload_n hx hb dX0_walk_79 rfl (lv_at hl 3 rfl) ?_
        refine va_get (D := (dC, dI)) (ci := 0) (v := .ref h5) (C := RX0) (T := TX0) (N := 10) hx hb hts hinX0 hown hK hP 0 rfl rfl 4 (by decide) (hts (.fieldLink RX0 24 "MayRings$Families" "bits" "[I") (List.mem_of_getElem? (i := 7) rfl)) (fun _ h9 => h9) rfl dX0_walk_80 ?_
        refine lv_iload_n hx hb dX0_walk_83 rfl (lv_at hl 6 rfl) ?_
        refine lv_bipush (v := 9) hx hb dX0_walk_84 (by decide) ?_
        refine lv_imul hx hb dX0_walk_86 ?_
        refine lv_topi (fun x_358 ex_358 => ?_)
        have hx_358 : rg (0) (72) x_358 := by rw [ex_358]; exact rg_mono (rg_mul hp2 (rg_k (x := 9) (c := 9) (by decide)) (by decide) (by decide) (by decide)) (by decide) (by decide)
        refine lv_iload hx hb dX0_walk_87 (lv_at hl 0 rfl) ?_
        refine lv_iadd hx hb dX0_walk_89 ?_
        refine lv_topi (fun x_359 ex_359 => ?_)
        have hx_359 : rg (0) (80) x_359 := by rw [ex_359]; exact rg_mono (rg_add hx_358 h_344 (by decide) (by decide)) (by decide) (by decide)
        have qx_359 : x_359.toInt = x_358.toInt + x_305.toInt := by rw [ex_359]; exact rg_addQ hx_358 h_344 (by decide) (by decide)
        refine va_iald hx hb hK hP 4 1 rfl rfl (rg_in (n := 81) (rg_mono hx_359 (by decide) (by decide))) dX0_walk_90 ?_
        refine lv_topi (fun x_360 ex_360 => ?_)
        refine lv_ior hx hb dX0_walk_91 ?_
        refine lv_topi (fun x_361 ex_361 => ?_)
        refine lv_iload hx hb dX0_walk_92 (lv_at hl 8 rfl) ?_
        refine lv_iload hx hb dX0_walk_94 (lv_at hl 0 rfl) ?_
        refine lv_iconst (v := 4) hx hb dX0_walk_96 (by decide) ?_
        refine lv_iload hx hb dX0_walk_97 (lv_at hl 2 rfl) ?_
        refine lv_imul hx hb dX0_walk_99 ?_
        refine tp_v (.int 4) (congrArg Value.int (by decide)) ?_
        refine lv_ishl hx hb dX0_walk_100 ?_
        refine lv_topi (fun x_362 ex_362 => ?_)
        refine lv_ior hx hb dX0_walk_101 ?_
        refine lv_topi (fun x_363 ex_363 => ?_)
        have hPc := hP.sub (ws' := [(h0, .inr (0, [.ref h1, .ref h2, .ref h3, .ref h4, .ref h5, .ref h6, .int x_309, .int a1, .int a2, .int x_310])), (h1, .inl (cI, 2520, .inl f_306)), (h2, .inl (cI, 2520, .inl f_307)), (h4, .inl (cI, 4096, .inl f_308)), (h5, .inl (cI, 81, .inl g4)), (h7, .inr (7, [.ref h8, .ref h9, .ref h10, .ref h11, .ref h12, .ref h13, .int a4, .int a5, .int a6, .int a7, .int a8, .int a9, .int a10, .int a11])), (h8, .inl (cI, 9, .inl g6)), (h9, .inl (cI, 9, .inl g7))]) [0, 1, 2, 3, 4, 5, 6, 7] rfl
        have hDc := hD.sub (ws' := [(h0, .inr (0, [.ref h1, .ref h2, .ref h3, .ref h4, .ref h5, .ref h6, .int x_309, .int a1, .int a2, .int x_310])), (h1, .inl (cI, 2520, .inl f_306)), (h2, .inl (cI, 2520, .inl f_307)), (h4, .inl (cI, 4096, .inl f_308)), (h5, .inl (cI, 81, .inl g4)), (h7, .inr (7, [.ref h8, .ref h9, .ref h10, .ref h11, .ref h12, .ref h13, .int a4, .int a5, .int a6, .int a7, .int a8, .int a9, .int a10, .int a11])), (h8, .inl (cI, 9, .inl g6)), (h9, .inl (cI, 9, .inl g7))]) [0, 1, 2, 3, 4, 5, 6, 7] (by decide) rfl
        have hFc := va_free (wc := [(h0, .inr (0, [.ref h1, .ref h2, .ref h3, .ref h4, .ref h5, .ref h6, .int x_309, .int a1, .int a2, .int x_310])), (h1, .inl (cI, 2520, .inl f_306)), (h2, .inl (cI, 2520, .inl f_307)), (h4, .inl (cI, 4096, .inl f_308)), (h5, .inl (cI, 81, .inl g4)), (h7, .inr (7, [.ref h8, .ref h9, .ref h10, .ref h11, .ref h12, .ref h13, .int a4, .int a5, .int a6, .int a7, .int a8, .int a9, .int a10, .int a11])), (h8, .inl (cI, 9, .inl g6)), (h9, .inl (cI, 9, .inl g7))]) hD hS hA [0, 1, 2, 3, 4, 5, 6, 7] rfl
        refine va_callv (va_runV (As := [.ref h7, .int x_357, .int x_305, .int x_361, .int x_363]) (rest := []) ⟨hx, hb, hml, hown, hts⟩ (c_s_X0_walk_k2 l dC dI cB cI cJ cZ cP h0 h1 f_306 h2 f_307 h3 h4 f_308 h5 g4 h6 x_309 (rg_mono hx_309 (by decide) (by decide)) a1 a2 (rg_mono h_4 (by decide) (by decide)) x_310 h7 h8 g6 hg6 h9 g7 hg7 h10 h11 h12 h13 a4 a5 a6 (rg_mono ha6 (by decide) (by decide)) a7 a8 a9 a10 a11 x_357 (rg_mono hx_357 (by decide) (by decide)) x_305 (rg_mono h_344 (by decide) (by decide)) x_361 x_363 kl49_310_0 (show bcE x_357 = 2 from (by rw [ex_357, ex_356]; exact bc_step (rg_mono hp1 (by decide) (by decide)) (rg_mono h_344 (by decide) (by decide)) (ex_9.trans (by rw [ex_8])) (by rw [← ex_345, ← ex_346]; exact c_347) kr1 (by decide))) (show nbk 2 x_363 from (by rw [ex_363, ex_362]; exact nbk_step 1 kr2 (rg_mono h_344 (by decide) (by decide)) (by decide) (by decide))) H.size) (cwV 5 hts (gd_V (List.mem_of_getElem? (i := 8) rfl) (List.mem_of_getElem? (i := 9) rfl) (List.mem_of_getElem? (i := 10) rfl) (List.mem_of_getElem? (i := 11) rfl) (gd_mono k_s_X0_walk_k2 (fun _ h => List.mem_cons_of_mem _ (List.mem_append_right _ (List.mem_append_right _ (List.mem_append_right _ (List.mem_append_right _ (List.mem_append_left _ h)))))))) rfl rfl rfl (by decide +kernel) ⟨Nat.le_of_ble_eq_true rfl, Nat.le_of_ble_eq_true rfl⟩) ⟨fun a U g mk q => by obtain ⟨q0, q1, qP, qK, qD⟩ := q; exact ⟨q0, q1, qP, va_K.moved (u := U) (U := U.calling g mk a) (Vm.Alike.refl U.vm) qK, qD⟩, va_recv hK hPc (ci := 0) (q0 := 0) rfl rfl, fun U hU hW => ⟨rfl, by rw [hU], by rw [hU]; exact hPc, va_K.moved hW.alike hK, hDc.weaken (fun _ _ _ _ => trivial)⟩⟩ rfl rfl hl.1 rfl (lv_room (Nat.le_of_ble_eq_true rfl)) dX0_walk_102 ⟨Nat.le_of_ble_eq_true rfl, Nat.le_of_ble_eq_true rfl⟩) hS (fun q _ h => hFc q h) hFc (fun u t H1 locs ht hvm hw hB hz1 hk1 hS => ?_)
        obtain ⟨x_365, x_366, f_367, f_368, f_369, hx_365, k_370, hP1, hD1⟩ := hB
        rw [ht] at hP1
        obtain ⟨hP, hD⟩ := va_join (wr := []) (w1 := [(h0, .inr (0, [.ref h1, .ref h2, .ref h3, .ref h4, .ref h5, .ref h6, .int x_365, .int a1, .int a2, .int x_366])), (h1, .inl (cI, 2520, .inl f_367)), (h2, .inl (cI, 2520, .inl f_368)), (h4, .inl (cI, 4096, .inl f_369)), (h5, .inl (cI, 81, .inl g4)), (h7, .inr (7, [.ref h8, .ref h9, .ref h10, .ref h11, .ref h12, .ref h13, .int a4, .int a5, .int a6, .int a7, .int a8, .int a9, .int a10, .int a11])), (h8, .inl (cI, 9, .inl g6)), (h9, .inl (cI, 9, .inl g7))]) hP hD [0, 1, 2, 3, 4, 5, 6, 7] [] rfl rfl (by decide) (by decide) hk1 hFc hP1 hD1
        generalize H1 = H at hP hS ⊢
        replace hP : va_P (dC, dI) vwCl [(h0, .inr (0, [.ref h1, .ref h2, .ref h3, .ref h4, .ref h5, .ref h6, .int x_365, .int a1, .int a2, .int x_366])), (h1, .inl (cI, 2520, .inl f_367)), (h2, .inl (cI, 2520, .inl f_368)), (h4, .inl (cI, 4096, .inl f_369)), (h5, .inl (cI, 81, .inl g4)), (h7, .inr (7, [.ref h8, .ref h9, .ref h10, .ref h11, .ref h12, .ref h13, .int a4, .int a5, .int a6, .int a7, .int a8, .int a9, .int a10, .int a11])), (h8, .inl (cI, 9, .inl g6)), (h9, .inl (cI, 9, .inl g7))] H := hP
        replace hD : va_D A [(h0, .inr (0, [.ref h1, .ref h2, .ref h3, .ref h4, .ref h5, .ref h6, .int x_365, .int a1, .int a2, .int x_366])), (h1, .inl (cI, 2520, .inl f_367)), (h2, .inl (cI, 2520, .inl f_368)), (h4, .inl (cI, 4096, .inl f_369)), (h5, .inl (cI, 81, .inl g4)), (h7, .inr (7, [.ref h8, .ref h9, .ref h10, .ref h11, .ref h12, .ref h13, .int a4, .int a5, .int a6, .int a7, .int a8, .int a9, .int a10, .int a11])), (h8, .inl (cI, 9, .inl g6)), (h9, .inl (cI, 9, .inl g7))] := hD
        obtain ⟨x_371, ex_371⟩ : ∃ y : Int32, y = x_305 + Int32.ofInt (1) := ⟨_, rfl⟩
        have hx_371 : rg (1) (9) x_371 := by rw [ex_371]; exact rg_mono (rg_add h_344 (rg_k (x := Int32.ofInt (1)) (c := 1) (by decide)) (by decide) (by decide)) (by decide) (by decide)
        have qx_371 : x_371.toInt = x_305.toInt + (1) := by rw [ex_371]; exact rg_addE h_344 (rg_k (x := Int32.ofInt (1)) (c := 1) (by decide)) (by decide) (by decide) (by decide)
        refine lv_iinc (v := x_371) (lv' := [(8, .int x_371), (7, .int x_9), (6, .int 1), (0, .ref h0), (1, .ref h7), (2, .int p1), (3, .int p2), (4, .int p3), (5, .int p4)]) hx hb dX0_walk_105 hl (k := 0) rfl (ex_371.symm) (by decide) rfl (fun ls hl => ?_)
        clear ex_371
        refine lv_goto (tgt := 49) hx hb dX0_walk_108 (by decide) ?_
        exact ih_341 (x_371, f_367, f_368, f_369, x_365, x_366) H locs ls ⟨hP.sub (ws' := [(h0, .inr (0, [.ref h1, .ref h2, .ref h3, .ref h4, .ref h5, .ref h6, .int x_365, .int a1, .int a2, .int x_366])), (h1, .inl (cI, 2520, .inl f_367)), (h2, .inl (cI, 2520, .inl f_368)), (h4, .inl (cI, 4096, .inl f_369)), (h5, .inl (cI, 81, .inl g4)), (h7, .inr (7, [.ref h8, .ref h9, .ref h10, .ref h11, .ref h12, .ref h13, .int a4, .int a5, .int a6, .int a7, .int a8, .int a9, .int a10, .int a11])), (h8, .inl (cI, 9, .inl g6)), (h9, .inl (cI, 9, .inl g7))]) [0, 1, 2, 3, 4, 5, 6, 7] rfl, hD.sub (ws' := [(h0, .inr (0, [.ref h1, .ref h2, .ref h3, .ref h4, .ref h5, .ref h6, .int x_365, .int a1, .int a2, .int x_366])), (h1, .inl (cI, 2520, .inl f_367)), (h2, .inl (cI, 2520, .inl f_368)), (h4, .inl (cI, 4096, .inl f_369)), (h5, .inl (cI, 81, .inl g4)), (h7, .inr (7, [.ref h8, .ref h9, .ref h10, .ref h11, .ref h12, .ref h13, .int a4, .int a5, .int a6, .int a7, .int a8, .int a9, .int a10, .int a11])), (h8, .inl (cI, 9, .inl g6)), (h9, .inl (cI, 9, .inl g7))]) [0, 1, 2, 3, 4, 5, 6, 7] (by decide) rfl, hS, lv_sub hl [0, 1, 2, 3, 4, 5, 6, 7, 8] rfl, (rg_mono hx_371 (by decide) (by decide)), (rg_mono hx_365 (by decide) (by decide)), k_370⟩ (by show ((9) - x_371.toInt).toNat < ((9) - x_305.toInt).toNat; have ha := h_344; simp only [rg] at ha; omega)
  · skip
    have h_372 : rg (1) (1) a2 := by have ha := (rg_k (x := 1) (c := 1) (by decide)); have hb_ := ha2; simp only [rg, fa_lt, fa_le, fa_eq, (by decide : (1 : Int32).toInt = 1)] at ha hb_ c_3; simp only [rg]; omega
    refine lv_aload_n hx hb dX0_walk_15 rfl (lv_at hl 1 rfl) ?_
    refine lv_aload_n hx hb dX0_walk_16 rfl (lv_at hl 2 rfl) ?_
    refine lv_iload_n hx hb dX0_walk_17 rfl (lv_at hl 4 rfl) ?_
    refine lv_iload hx hb dX0_walk_18 (lv_at hl 5 rfl) ?_
    refine lv_iload hx hb dX0_walk_20 (lv_at hl 6 rfl) ?_
    have hPc := hP.sub (ws' := [(h0, .inr (0, [.ref h1, .ref h2, .ref h3, .ref h4, .ref h5, .ref h6, .int a0, .int a1, .int a2, .int a3])), (h1, .inl (cI, 2520, .inl g0)), (h2, .inl (cI, 2520, .inl g1)), (h4, .inl (cI, 4096, .inl g3)), (h5, .inl (cI, 81, .inl g4)), (h7, .inr (7, [.ref h8, .ref h9, .ref h10, .ref h11, .ref h12, .ref h13, .int a4, .int a5, .int a6, .int a7, .int a8, .int a9, .int a10, .int a11])), (h9, .inl (cI, 9, .inl g7))]) [0, 1, 2, 3, 4, 5, 7] rfl
    have hDc := hD.sub (ws' := [(h0, .inr (0, [.ref h1, .ref h2, .ref h3, .ref h4, .ref h5, .ref h6, .int a0, .int a1, .int a2, .int a3])), (h1, .inl (cI, 2520, .inl g0)), (h2, .inl (cI, 2520, .inl g1)), (h4, .inl (cI, 4096, .inl g3)), (h5, .inl (cI, 81, .inl g4)), (h7, .inr (7, [.ref h8, .ref h9, .ref h10, .ref h11, .ref h12, .ref h13, .int a4, .int a5, .int a6, .int a7, .int a8, .int a9, .int a10, .int a11])), (h9, .inl (cI, 9, .inl g7))]) [0, 1, 2, 3, 4, 5, 7] (by decide) rfl
    have hFc := va_free (wc := [(h0, .inr (0, [.ref h1, .ref h2, .ref h3, .ref h4, .ref h5, .ref h6, .int a0, .int a1, .int a2, .int a3])), (h1, .inl (cI, 2520, .inl g0)), (h2, .inl (cI, 2520, .inl g1)), (h4, .inl (cI, 4096, .inl g3)), (h5, .inl (cI, 81, .inl g4)), (h7, .inr (7, [.ref h8, .ref h9, .ref h10, .ref h11, .ref h12, .ref h13, .int a4, .int a5, .int a6, .int a7, .int a8, .int a9, .int a10, .int a11])), (h9, .inl (cI, 9, .inl g7))]) hD hS hA [0, 1, 2, 3, 4, 5, 7] rfl
    refine va_callv (va_runV (As := [.ref h7, .int p2, .int p3, .int p4]) (rest := []) ⟨hx, hb, hml, hown, hts⟩ (c_s_X0_close l dC dI cB cI cJ cZ cP h0 h1 g0 h2 g1 h3 h4 g3 h5 g4 h6 a0 (rg_mono ha0 (by decide) (by decide)) a1 a2 a3 h7 h8 h9 g7 hg7 h10 h11 h12 h13 a4 a5 a6 (rg_mono ha6 (by decide) (by decide)) a7 a8 a9 a10 a11 p2 (rg_mono hp2 (by decide) (by decide)) p3 p4 kr0 (show nb p4 from nb_of kr2) H.size) (cwV 4 hts (gd_V (List.mem_of_getElem? (i := 12) rfl) (List.mem_of_getElem? (i := 13) rfl) (List.mem_of_getElem? (i := 14) rfl) (List.mem_of_getElem? (i := 11) rfl) (gd_mono k_s_X0_close (fun _ h => List.mem_cons_of_mem _ (List.mem_append_right _ (List.mem_append_right _ (List.mem_append_right _ (List.mem_append_right _ (List.mem_append_right _ (List.mem_append_left _ h))))))))) rfl rfl rfl (by decide +kernel) ⟨Nat.le_of_ble_eq_true rfl, Nat.le_of_ble_eq_true rfl⟩) ⟨fun a U g mk q => by obtain ⟨q0, q1, qP, qK, qD⟩ := q; exact ⟨q0, q1, qP, va_K.moved (u := U) (U := U.calling g mk a) (Vm.Alike.refl U.vm) qK, qD⟩, va_recv hK hPc (ci := 0) (q0 := 0) rfl rfl, fun U hU hW => ⟨rfl, by rw [hU], by rw [hU]; exact hPc, va_K.moved hW.alike hK, hDc.weaken (fun _ _ _ _ => trivial)⟩⟩ rfl rfl hl.1 rfl (lv_room (Nat.le_of_ble_eq_true rfl)) dX0_walk_22 ⟨Nat.le_of_ble_eq_true rfl, Nat.le_of_ble_eq_true rfl⟩) hS (fun q _ h => hFc q h) hFc (fun u t H1 locs ht hvm hw hB hz1 hk1 hS => ?_)
    obtain ⟨x_374, x_375, f_376, f_377, f_378, hx_374, k_379, hP1, hD1⟩ := hB
    rw [ht] at hP1
    obtain ⟨hP, hD⟩ := va_join (wr := [(h8, .inl (cI, 9, .inl g6))]) (w1 := [(h0, .inr (0, [.ref h1, .ref h2, .ref h3, .ref h4, .ref h5, .ref h6, .int x_374, .int a1, .int a2, .int x_375])), (h1, .inl (cI, 2520, .inl f_376)), (h2, .inl (cI, 2520, .inl f_377)), (h4, .inl (cI, 4096, .inl f_378)), (h5, .inl (cI, 81, .inl g4)), (h7, .inr (7, [.ref h8, .ref h9, .ref h10, .ref h11, .ref h12, .ref h13, .int a4, .int a5, .int a6, .int a7, .int a8, .int a9, .int a10, .int a11])), (h9, .inl (cI, 9, .inl g7))]) hP hD [0, 1, 2, 3, 4, 5, 7] [6] rfl rfl (by decide) (by decide) hk1 hFc hP1 hD1
    generalize H1 = H at hP hS ⊢
    replace hP : va_P (dC, dI) vwCl [(h8, .inl (cI, 9, .inl g6)), (h0, .inr (0, [.ref h1, .ref h2, .ref h3, .ref h4, .ref h5, .ref h6, .int x_374, .int a1, .int a2, .int x_375])), (h1, .inl (cI, 2520, .inl f_376)), (h2, .inl (cI, 2520, .inl f_377)), (h4, .inl (cI, 4096, .inl f_378)), (h5, .inl (cI, 81, .inl g4)), (h7, .inr (7, [.ref h8, .ref h9, .ref h10, .ref h11, .ref h12, .ref h13, .int a4, .int a5, .int a6, .int a7, .int a8, .int a9, .int a10, .int a11])), (h9, .inl (cI, 9, .inl g7))] H := hP
    replace hD : va_D A [(h8, .inl (cI, 9, .inl g6)), (h0, .inr (0, [.ref h1, .ref h2, .ref h3, .ref h4, .ref h5, .ref h6, .int x_374, .int a1, .int a2, .int x_375])), (h1, .inl (cI, 2520, .inl f_376)), (h2, .inl (cI, 2520, .inl f_377)), (h4, .inl (cI, 4096, .inl f_378)), (h5, .inl (cI, 81, .inl g4)), (h7, .inr (7, [.ref h8, .ref h9, .ref h10, .ref h11, .ref h12, .ref h13, .int a4, .int a5, .int a6, .int a7, .int a8, .int a9, .int a10, .int a11])), (h9, .inl (cI, 9, .inl g7))] := hD
    have hP9 := hP.sub (ws' := [(h0, .inr (0, [.ref h1, .ref h2, .ref h3, .ref h4, .ref h5, .ref h6, .int x_374, .int a1, .int a2, .int x_375])), (h1, .inl (cI, 2520, .inl f_376)), (h2, .inl (cI, 2520, .inl f_377)), (h4, .inl (cI, 4096, .inl f_378)), (h5, .inl (cI, 81, .inl g4)), (h7, .inr (7, [.ref h8, .ref h9, .ref h10, .ref h11, .ref h12, .ref h13, .int a4, .int a5, .int a6, .int a7, .int a8, .int a9, .int a10, .int a11])), (h8, .inl (cI, 9, .inl g6)), (h9, .inl (cI, 9, .inl g7))]) [1, 2, 3, 4, 5, 6, 0, 7] rfl
    have hD9 := hD.sub (ws' := [(h0, .inr (0, [.ref h1, .ref h2, .ref h3, .ref h4, .ref h5, .ref h6, .int x_374, .int a1, .int a2, .int x_375])), (h1, .inl (cI, 2520, .inl f_376)), (h2, .inl (cI, 2520, .inl f_377)), (h4, .inl (cI, 4096, .inl f_378)), (h5, .inl (cI, 81, .inl g4)), (h7, .inr (7, [.ref h8, .ref h9, .ref h10, .ref h11, .ref h12, .ref h13, .int a4, .int a5, .int a6, .int a7, .int a8, .int a9, .int a10, .int a11])), (h8, .inl (cI, 9, .inl g6)), (h9, .inl (cI, 9, .inl g7))]) [1, 2, 3, 4, 5, 6, 0, 7] (by decide) rfl
    exact W.vret hx hb hr (fun t ht hW => ⟨⟨(), rfl, trivial, ⟨x_374, x_375, f_376, f_377, f_378, (rg_mono hx_374 (by decide) (by decide)), k_379, by rw [ht]; exact hP9, hD9⟩⟩, hS.F ht⟩) hS.2.2 dX0_walk_25
def v_s_X0_gather : List Cond := Cond.code yX0_gather cX0_gather 3 none :: ([Cond.fieldLink RX0 21 "MayRings$Families" "slots" "[I", Cond.methodLink RX0 43 yJ7_fill_53178, Cond.static yJ7_fill_53178, Cond.initialized RJ7, Cond.fieldLink RX0 30 "MayRings$Families" "count" "I", Cond.fieldLink RX0 40 "MayRings$Families" "union" "I", Cond.fieldLink RX0 49 "MayRings$Ways" "size" "I", Cond.fieldLink RX0 37 "MayRings$Families" "size" "I", Cond.fieldLink RX0 52 "MayRings$Ways" "houses" "I", Cond.methodLink RX0 55 yX0_numberPairs, Cond.instanceMethod yX0_numberPairs, Cond.selects RX0 yX0_numberPairs yX0_numberPairs, Cond.initialized RX0, Cond.methodLink RX0 59 yX0_findTwins, Cond.instanceMethod yX0_findTwins, Cond.selects RX0 yX0_findTwins yX0_findTwins, Cond.fieldLink RX0 67 "MayRings$Ways" "ground" "[I", Cond.methodLink RX0 70 yX0_walk, Cond.instanceMethod yX0_walk, Cond.selects RX0 yX0_walk yX0_walk, Cond.methodLink RX0 63 yX0_put, Cond.instanceMethod yX0_put, Cond.selects RX0 yX0_put yX0_put] ++ (wsX00 ++ (wsX70 ++ (v_fill ++ (v_s_X0_numberPairs ++ (v_s_X0_findTwins ++ (v_s_X0_walk_k1 ++ (v_s_X0_put ++ ([])))))))))
theorem k_s_X0_gather : GoodIn lw_tbl v_s_X0_gather := gd_c (List.mem_of_getElem? (i := 1029) (by decide +kernel)) rfl (goodIn_app (gd_c (List.mem_of_getElem? (i := 503) (by decide +kernel)) rfl (gd_c (List.mem_of_getElem? (i := 1030) (by decide +kernel)) rfl (gd_c (List.mem_of_getElem? (i := 208) (by decide +kernel)) rfl (gd_c (List.mem_of_getElem? (i := 134) (by decide +kernel)) rfl (gd_c (List.mem_of_getElem? (i := 506) (by decide +kernel)) rfl (gd_c (List.mem_of_getElem? (i := 509) (by decide +kernel)) rfl (gd_c (List.mem_of_getElem? (i := 455) (by decide +kernel)) rfl (gd_c (List.mem_of_getElem? (i := 508) (by decide +kernel)) rfl (gd_c (List.mem_of_getElem? (i := 453) (by decide +kernel)) rfl (gd_c (List.mem_of_getElem? (i := 1031) (by decide +kernel)) rfl (gd_c (List.mem_of_getElem? (i := 1033) (by decide +kernel)) rfl (gd_c (List.mem_of_getElem? (i := 52) (by decide +kernel)) rfl (gd_c (List.mem_of_getElem? (i := 143) (by decide +kernel)) rfl (gd_c (List.mem_of_getElem? (i := 1035) (by decide +kernel)) rfl (gd_c (List.mem_of_getElem? (i := 1037) (by decide +kernel)) rfl (gd_c (List.mem_of_getElem? (i := 53) (by decide +kernel)) rfl (gd_c (List.mem_of_getElem? (i := 441) (by decide +kernel)) rfl (gd_c (List.mem_of_getElem? (i := 1048) (by decide +kernel)) rfl (gd_c (List.mem_of_getElem? (i := 1050) (by decide +kernel)) rfl (gd_c (List.mem_of_getElem? (i := 56) (by decide +kernel)) rfl (gd_c (List.mem_of_getElem? (i := 1043) (by decide +kernel)) rfl (gd_c (List.mem_of_getElem? (i := 1045) (by decide +kernel)) rfl (gd_c (List.mem_of_getElem? (i := 55) (by decide +kernel)) rfl (gd_nil)))))))))))))))))))))))) (goodIn_app kfX0 (goodIn_app kfX7 (goodIn_app k_fill (goodIn_app k_s_X0_numberPairs (goodIn_app k_s_X0_findTwins (goodIn_app k_s_X0_walk_k1 (goodIn_app k_s_X0_put (gd_nil)))))))))
set_option maxHeartbeats 2000000 in
set_option maxRecDepth 100000 in
theorem c_s_X0_gather (l : Launch) (dC : Nat → ClassId) (dI : Nat → Nat → Nat) (cB cI cJ cZ cP : ClassId) (h0 : Nat) (h1 : Nat) (g0 : Nat → Int32) (h2 : Nat) (g1 : Nat → Int32) (h3 : Nat) (h4 : Nat) (g3 : Nat → Int32) (h5 : Nat) (g4 : Nat → Int32) (h6 : Nat) (g5 : Nat → Int32) (a0 : Int32) (a1 : Int32) (a2 : Int32) (a3 : Int32) (h7 : Nat) (h8 : Nat) (g6 : Nat → Int32) (hg6 : rgA (0) (511) g6) (h9 : Nat) (g7 : Nat → Int32) (hg7 : rgA (0) (511) g7) (h10 : Nat) (h11 : Nat) (h12 : Nat) (h13 : Nat) (a4 : Int32) (ha4 : rg (0) (511) a4) (a5 : Int32) (ha5 : rg (0) (9) a5) (a6 : Int32) (ha6 : rg (0) (1) a6) (a7 : Int32) (a8 : Int32) (a9 : Int32) (a10 : Int32) (a11 : Int32) (kr0 : nbA g1) (sz : Nat) : Met l yX0_gather v_s_X0_gather ({ frames := 9, cells := 0, slots := 0, locals := 245 }) (va_Pc [.ref h0, .ref h7] (fun U => U.heap.size = sz ∧ va_P (dC, dI) vwCl [(h0, .inr (0, [.ref h1, .ref h2, .ref h3, .ref h4, .ref h5, .ref h6, .int a0, .int a1, .int a2, .int a3])), (h1, .inl (cI, 2520, .inl g0)), (h2, .inl (cI, 2520, .inl g1)), (h4, .inl (cI, 4096, .inl g3)), (h5, .inl (cI, 81, .inl g4)), (h6, .inl (cI, 9, .inl g5)), (h7, .inr (7, [.ref h8, .ref h9, .ref h10, .ref h11, .ref h12, .ref h13, .int a4, .int a5, .int a6, .int a7, .int a8, .int a9, .int a10, .int a11])), (h8, .inl (cI, 9, .inl g6)), (h9, .inl (cI, 9, .inl g7))] U.heap ∧ va_K (dC, dI) vwCl (ty5 cB cI cJ cZ cP) U ∧ va_D (fun _ => True) [(h0, .inr (0, [.ref h1, .ref h2, .ref h3, .ref h4, .ref h5, .ref h6, .int a0, .int a1, .int a2, .int a3])), (h1, .inl (cI, 2520, .inl g0)), (h2, .inl (cI, 2520, .inl g1)), (h4, .inl (cI, 4096, .inl g3)), (h5, .inl (cI, 81, .inl g4)), (h6, .inl (cI, 9, .inl g5)), (h7, .inr (7, [.ref h8, .ref h9, .ref h10, .ref h11, .ref h12, .ref h13, .int a4, .int a5, .int a6, .int a7, .int a8, .int a9, .int a10, .int a11])), (h8, .inl (cI, 9, .inl g6)), (h9, .inl (cI, 9, .inl g7))])) (va_Qv (fun _ : Unit => True) (fun _ t => ∃ (z0 : Int32) (z1 : Int32) (z2 : Nat → Int32) (z3 : Nat → Int32) (z4 : Nat → Int32) (z5 : Nat → Int32) (z6 : Nat → Int32), rg (0) (2520) z0 ∧ (nbA z3) ∧ va_P (dC, dI) vwCl [(h0, .inr (0, [.ref h1, .ref h2, .ref h3, .ref h4, .ref h5, .ref h6, .int z0, .int a1, .int a5, .int z1])), (h1, .inl (cI, 2520, .inl z2)), (h2, .inl (cI, 2520, .inl z3)), (h4, .inl (cI, 4096, .inl z4)), (h5, .inl (cI, 81, .inl z5)), (h6, .inl (cI, 9, .inl z6)), (h7, .inr (7, [.ref h8, .ref h9, .ref h10, .ref h11, .ref h12, .ref h13, .int a4, .int a5, .int a6, .int a7, .int a8, .int a9, .int a10, .int a11])), (h8, .inl (cI, 9, .inl g6)), (h9, .inl (cI, 9, .inl g7))] t.heap ∧ va_D (va_A [(h0, .inr (0, [.ref h1, .ref h2, .ref h3, .ref h4, .ref h5, .ref h6, .int a0, .int a1, .int a2, .int a3])), (h1, .inl (cI, 2520, .inl g0)), (h2, .inl (cI, 2520, .inl g1)), (h4, .inl (cI, 4096, .inl g3)), (h5, .inl (cI, 81, .inl g4)), (h6, .inl (cI, 9, .inl g5)), (h7, .inr (7, [.ref h8, .ref h9, .ref h10, .ref h11, .ref h12, .ref h13, .int a4, .int a5, .int a6, .int a7, .int a8, .int a9, .int a10, .int a11])), (h8, .inl (cI, 9, .inl g6)), (h9, .inl (cI, 9, .inl g7))] sz) [(h0, .inr (0, [.ref h1, .ref h2, .ref h3, .ref h4, .ref h5, .ref h6, .int z0, .int a1, .int a5, .int z1])), (h1, .inl (cI, 2520, .inl z2)), (h2, .inl (cI, 2520, .inl z3)), (h4, .inl (cI, 4096, .inl z4)), (h5, .inl (cI, 81, .inl z5)), (h6, .inl (cI, 9, .inl z6)), (h7, .inr (7, [.ref h8, .ref h9, .ref h10, .ref h11, .ref h12, .ref h13, .int a4, .int a5, .int a6, .int a7, .int a8, .int a9, .int a10, .int a11])), (h8, .inl (cI, 9, .inl g6)), (h9, .inl (cI, 9, .inl g7))]) (va_A [(h0, .inr (0, [.ref h1, .ref h2, .ref h3, .ref h4, .ref h5, .ref h6, .int a0, .int a1, .int a2, .int a3])), (h1, .inl (cI, 2520, .inl g0)), (h2, .inl (cI, 2520, .inl g1)), (h4, .inl (cI, 4096, .inl g3)), (h5, .inl (cI, 81, .inl g4)), (h6, .inl (cI, 9, .inl g5)), (h7, .inr (7, [.ref h8, .ref h9, .ref h10, .ref h11, .ref h12, .ref h13, .int a4, .int a5, .int a6, .int a7, .int a8, .int a9, .int a10, .int a11])), (h8, .inl (cI, 9, .inl g6)), (h9, .inl (cI, 9, .inl g7))] sz)) 0 0 (va_A [(h0, .inr (0, [.ref h1, .ref h2, .ref h3, .ref h4, .ref h5, .ref h6, .int a0, .int a1, .int a2, .int a3])), (h1, .inl (cI, 2520, .inl g0)), (h2, .inl (cI, 2520, .inl g1)), (h4, .inl (cI, 4096, .inl g3)), (h5, .inl (cI, 81, .inl g4)), (h6, .inl (cI, 9, .inl g5)), (h7, .inr (7, [.ref h8, .ref h9, .ref h10, .ref h11, .ref h12, .ref h13, .int a4, .int a5, .int a6, .int a7, .int a8, .int a9, .int a10, .int a11])), (h8, .inl (cI, 9, .inl g6)), (h9, .inl (cI, 9, .inl g7))] sz) := by
  refine Met.ofW (cc := cX0_gather) (maxL := 3) (ret := none) (by decide) rfl ?_
  intro p e s m args below meth c s₁ B hml hv
  obtain ⟨rfl, hsz, hP, hK, hD0⟩ := hv
  have hx := B.exec
  have hb := B.bytes
  have hr := B.returns
  have hts := atoms_spec (ws := v_s_X0_gather) B.pre
  have hown : s.vm.findClass RX0 = some m.cls := findClass_of_methodNamed B.named
  have hlocks := B.notSynchronized
  have hinX0 : ∀ w ∈ wsX00, w ∈ v_s_X0_gather := fun _ h => List.mem_cons_of_mem _ (List.mem_append_right _ (List.mem_append_left _ h))
  have hinX7 : ∀ w ∈ wsX70, w ∈ v_s_X0_gather := fun _ h => List.mem_cons_of_mem _ (List.mem_append_right _ (List.mem_append_right _ (List.mem_append_left _ h)))
  subst hsz
  have hD := hD0.self (sz := s.heap.size)
  generalize hAe : va_A [(h0, .inr (0, [.ref h1, .ref h2, .ref h3, .ref h4, .ref h5, .ref h6, .int a0, .int a1, .int a2, .int a3])), (h1, .inl (cI, 2520, .inl g0)), (h2, .inl (cI, 2520, .inl g1)), (h4, .inl (cI, 4096, .inl g3)), (h5, .inl (cI, 81, .inl g4)), (h6, .inl (cI, 9, .inl g5)), (h7, .inr (7, [.ref h8, .ref h9, .ref h10, .ref h11, .ref h12, .ref h13, .int a4, .int a5, .int a6, .int a7, .int a8, .int a9, .int a10, .int a11])), (h8, .inl (cI, 9, .inl g6)), (h9, .inl (cI, 9, .inl g7))] s.heap.size = A at hD ⊢
  have hA : ∀ q : Nat, s.heap.size ≤ q → A q := fun q h => by rw [← hAe]; exact Or.inr h
  have hP : va_P (dC, dI) vwCl [(h0, .inr (0, [.ref h1, .ref h2, .ref h3, .ref h4, .ref h5, .ref h6, .int a0, .int a1, .int a2, .int a3])), (h1, .inl (cI, 2520, .inl g0)), (h2, .inl (cI, 2520, .inl g1)), (h4, .inl (cI, 4096, .inl g3)), (h5, .inl (cI, 81, .inl g4)), (h6, .inl (cI, 9, .inl g5)), (h7, .inr (7, [.ref h8, .ref h9, .ref h10, .ref h11, .ref h12, .ref h13, .int a4, .int a5, .int a6, .int a7, .int a8, .int a9, .int a10, .int a11])), (h8, .inl (cI, 9, .inl g6)), (h9, .inl (cI, 9, .inl g7))] s.heap := hP
  have hl := lv_entry ([.ref h0, .ref h7]) (n := 3) (Nat.le_of_ble_eq_true rfl)
  rw [lg_entry_eq]
  generalize (lg_sl ([.ref h0, .ref h7]) ++ List.replicate (3 - (lg_sl ([.ref h0, .ref h7])).length) Slot.unset).toArray = ls at hl ⊢
  have hl : lv_has ls 3 [(0, .ref h0), (1, .ref h7)] := hl
  refine W_gen (A := A) hP (fun H locs hP hS => ?_)
  refine lv_aload_n hx hb dX0_gather_0 rfl (lv_at hl 0 rfl) ?_
  refine va_get (D := (dC, dI)) (ci := 0) (v := .ref h4) (C := RX0) (T := TX0) (N := 10) hx hb hts hinX0 hown hK hP 0 rfl rfl 3 (by decide) (hts (.fieldLink RX0 21 "MayRings$Families" "slots" "[I") (List.mem_of_getElem? (i := 1) rfl)) (fun _ h9 => h9) rfl dX0_gather_1 ?_
  refine lv_iconst (v := 0) hx hb dX0_gather_4 (by decide) ?_
  have hPc := hP.sub (ws' := [(h4, .inl (cI, 4096, .inl g3))]) [3] rfl
  have hDc := hD.sub (ws' := [(h4, .inl (cI, 4096, .inl g3))]) [3] (by decide) rfl
  have hFc := va_free (wc := [(h4, .inl (cI, 4096, .inl g3))]) hD hS hA [3] rfl
  refine va_callv (va_runS (As := [.ref h4, .int 0]) (rest := []) ⟨hx, hb, hml, hown, hts⟩ (c_fill l dC dI cB cI cJ cZ cP h4 4096 g3 0 (by decide) H.size) (va_cwS 2 hts (gd_S (List.mem_of_getElem? (i := 2) rfl) (List.mem_of_getElem? (i := 3) rfl) (List.mem_of_getElem? (i := 4) rfl) (gd_mono k_fill (fun _ h => List.mem_cons_of_mem _ (List.mem_append_right _ (List.mem_append_right _ (List.mem_append_right _ (List.mem_append_left _ h))))))) rfl rfl rfl (by decide +kernel) ⟨Nat.le_of_ble_eq_true rfl, Nat.le_of_ble_eq_true rfl⟩) ⟨fun a U g mk q => by obtain ⟨q0, q1, qP, qK, qD⟩ := q; exact ⟨q0, q1, qP, va_K.moved (u := U) (U := U.calling g mk a) (Vm.Alike.refl U.vm) qK, qD⟩, fun U hU hW => ⟨rfl, by rw [hU], by rw [hU]; exact hPc, va_K.moved hW.alike hK, hDc.weaken (fun _ _ _ _ => trivial)⟩⟩ rfl rfl hl.1 rfl (lv_room (Nat.le_of_ble_eq_true rfl)) dX0_gather_5 ⟨Nat.le_of_ble_eq_true rfl, Nat.le_of_ble_eq_true rfl⟩) hS (fun q _ h => hFc q h) hFc (fun u t H1 locs ht hvm hw hB hz1 hk1 hS => ?_)
  obtain ⟨f_2, ef_2, hP1, hD1⟩ := hB
  rw [ht] at hP1
  obtain ⟨hP, hD⟩ := va_join (wr := [(h0, .inr (0, [.ref h1, .ref h2, .ref h3, .ref h4, .ref h5, .ref h6, .int a0, .int a1, .int a2, .int a3])), (h1, .inl (cI, 2520, .inl g0)), (h2, .inl (cI, 2520, .inl g1)), (h5, .inl (cI, 81, .inl g4)), (h6, .inl (cI, 9, .inl g5)), (h7, .inr (7, [.ref h8, .ref h9, .ref h10, .ref h11, .ref h12, .ref h13, .int a4, .int a5, .int a6, .int a7, .int a8, .int a9, .int a10, .int a11])), (h8, .inl (cI, 9, .inl g6)), (h9, .inl (cI, 9, .inl g7))]) (w1 := [(h4, .inl (cI, 4096, .inl f_2))]) hP hD [3] [0, 1, 2, 4, 5, 6, 7, 8] rfl rfl (by decide) (by decide) hk1 hFc hP1 hD1
  generalize H1 = H at hP hS ⊢
  clear ef_2
  replace hP : va_P (dC, dI) vwCl [(h0, .inr (0, [.ref h1, .ref h2, .ref h3, .ref h4, .ref h5, .ref h6, .int a0, .int a1, .int a2, .int a3])), (h1, .inl (cI, 2520, .inl g0)), (h2, .inl (cI, 2520, .inl g1)), (h5, .inl (cI, 81, .inl g4)), (h6, .inl (cI, 9, .inl g5)), (h7, .inr (7, [.ref h8, .ref h9, .ref h10, .ref h11, .ref h12, .ref h13, .int a4, .int a5, .int a6, .int a7, .int a8, .int a9, .int a10, .int a11])), (h8, .inl (cI, 9, .inl g6)), (h9, .inl (cI, 9, .inl g7)), (h4, .inl (cI, 4096, .inl f_2))] H := hP
  replace hD : va_D A [(h0, .inr (0, [.ref h1, .ref h2, .ref h3, .ref h4, .ref h5, .ref h6, .int a0, .int a1, .int a2, .int a3])), (h1, .inl (cI, 2520, .inl g0)), (h2, .inl (cI, 2520, .inl g1)), (h5, .inl (cI, 81, .inl g4)), (h6, .inl (cI, 9, .inl g5)), (h7, .inr (7, [.ref h8, .ref h9, .ref h10, .ref h11, .ref h12, .ref h13, .int a4, .int a5, .int a6, .int a7, .int a8, .int a9, .int a10, .int a11])), (h8, .inl (cI, 9, .inl g6)), (h9, .inl (cI, 9, .inl g7)), (h4, .inl (cI, 4096, .inl f_2))] := hD
  refine lv_aload_n hx hb dX0_gather_8 rfl (lv_at hl 0 rfl) ?_
  refine lv_iconst (v := 0) hx hb dX0_gather_9 (by decide) ?_
  refine va_put (D := (dC, dI)) (ci := 0) (v := .int 0) (ty := .int) (C := RX0) (T := TX0) (N := 10) hx hb hts hinX0 tyX0 tyX0_ok nmX0 hown hK hP hD hS 0 rfl rfl 6 (by decide) (hts (.fieldLink RX0 30 "MayRings$Families" "count" "I") (List.mem_of_getElem? (i := 5) rfl)) (fun _ h9 => h9) rfl (by decide +kernel) (rfl) (rfl) (Nat.le_of_ble_eq_true rfl) dX0_gather_10 (fun H locs hP hD hS => ?_)
  replace hP : va_P (dC, dI) vwCl [(h0, .inr (0, [.ref h1, .ref h2, .ref h3, .ref h4, .ref h5, .ref h6, .int 0, .int a1, .int a2, .int a3])), (h1, .inl (cI, 2520, .inl g0)), (h2, .inl (cI, 2520, .inl g1)), (h5, .inl (cI, 81, .inl g4)), (h6, .inl (cI, 9, .inl g5)), (h7, .inr (7, [.ref h8, .ref h9, .ref h10, .ref h11, .ref h12, .ref h13, .int a4, .int a5, .int a6, .int a7, .int a8, .int a9, .int a10, .int a11])), (h8, .inl (cI, 9, .inl g6)), (h9, .inl (cI, 9, .inl g7)), (h4, .inl (cI, 4096, .inl f_2))] H := hP
  replace hD : va_D A [(h0, .inr (0, [.ref h1, .ref h2, .ref h3, .ref h4, .ref h5, .ref h6, .int 0, .int a1, .int a2, .int a3])), (h1, .inl (cI, 2520, .inl g0)), (h2, .inl (cI, 2520, .inl g1)), (h5, .inl (cI, 81, .inl g4)), (h6, .inl (cI, 9, .inl g5)), (h7, .inr (7, [.ref h8, .ref h9, .ref h10, .ref h11, .ref h12, .ref h13, .int a4, .int a5, .int a6, .int a7, .int a8, .int a9, .int a10, .int a11])), (h8, .inl (cI, 9, .inl g6)), (h9, .inl (cI, 9, .inl g7)), (h4, .inl (cI, 4096, .inl f_2))] := hD
  refine lv_aload_n hx hb dX0_gather_13 rfl (lv_at hl 0 rfl) ?_
  refine lv_iconst (v := 0) hx hb dX0_gather_14 (by decide) ?_
  refine va_put (D := (dC, dI)) (ci := 0) (v := .int 0) (ty := .int) (C := RX0) (T := TX0) (N := 10) hx hb hts hinX0 tyX0 tyX0_ok nmX0 hown hK hP hD hS 0 rfl rfl 9 (by decide) (hts (.fieldLink RX0 40 "MayRings$Families" "union" "I") (List.mem_of_getElem? (i := 6) rfl)) (fun _ h9 => h9) rfl (by decide +kernel) (rfl) (rfl) (Nat.le_of_ble_eq_true rfl) dX0_gather_15 (fun H locs hP hD hS => ?_)
  replace hP : va_P (dC, dI) vwCl [(h0, .inr (0, [.ref h1, .ref h2, .ref h3, .ref h4, .ref h5, .ref h6, .int 0, .int a1, .int a2, .int 0])), (h1, .inl (cI, 2520, .inl g0)), (h2, .inl (cI, 2520, .inl g1)), (h5, .inl (cI, 81, .inl g4)), (h6, .inl (cI, 9, .inl g5)), (h7, .inr (7, [.ref h8, .ref h9, .ref h10, .ref h11, .ref h12, .ref h13, .int a4, .int a5, .int a6, .int a7, .int a8, .int a9, .int a10, .int a11])), (h8, .inl (cI, 9, .inl g6)), (h9, .inl (cI, 9, .inl g7)), (h4, .inl (cI, 4096, .inl f_2))] H := hP
  replace hD : va_D A [(h0, .inr (0, [.ref h1, .ref h2, .ref h3, .ref h4, .ref h5, .ref h6, .int 0, .int a1, .int a2, .int 0])), (h1, .inl (cI, 2520, .inl g0)), (h2, .inl (cI, 2520, .inl g1)), (h5, .inl (cI, 81, .inl g4)), (h6, .inl (cI, 9, .inl g5)), (h7, .inr (7, [.ref h8, .ref h9, .ref h10, .ref h11, .ref h12, .ref h13, .int a4, .int a5, .int a6, .int a7, .int a8, .int a9, .int a10, .int a11])), (h8, .inl (cI, 9, .inl g6)), (h9, .inl (cI, 9, .inl g7)), (h4, .inl (cI, 4096, .inl f_2))] := hD
  refine lv_aload_n hx hb dX0_gather_18 rfl (lv_at hl 0 rfl) ?_
  refine lv_aload_n hx hb dX0_gather_19 rfl (lv_at hl 1 rfl) ?_
  refine va_get (D := (dC, dI)) (ci := 7) (v := .int a5) (C := RX7) (T := TX7) (N := 14) hx hb hts hinX7 hown hK hP 5 rfl rfl 7 (by decide) (hts (.fieldLink RX0 49 "MayRings$Ways" "size" "I") (List.mem_of_getElem? (i := 7) rfl)) (fun _ h9 => h9) rfl dX0_gather_20 ?_
  refine va_put (D := (dC, dI)) (ci := 0) (v := .int a5) (ty := .int) (C := RX0) (T := TX0) (N := 10) hx hb hts hinX0 tyX0 tyX0_ok nmX0 hown hK hP hD hS 0 rfl rfl 8 (by decide) (hts (.fieldLink RX0 37 "MayRings$Families" "size" "I") (List.mem_of_getElem? (i := 8) rfl)) (fun _ h9 => h9) rfl (by decide +kernel) (rfl) (rfl) (Nat.le_of_ble_eq_true rfl) dX0_gather_23 (fun H locs hP hD hS => ?_)
  replace hP : va_P (dC, dI) vwCl [(h0, .inr (0, [.ref h1, .ref h2, .ref h3, .ref h4, .ref h5, .ref h6, .int 0, .int a1, .int a5, .int 0])), (h1, .inl (cI, 2520, .inl g0)), (h2, .inl (cI, 2520, .inl g1)), (h5, .inl (cI, 81, .inl g4)), (h6, .inl (cI, 9, .inl g5)), (h7, .inr (7, [.ref h8, .ref h9, .ref h10, .ref h11, .ref h12, .ref h13, .int a4, .int a5, .int a6, .int a7, .int a8, .int a9, .int a10, .int a11])), (h8, .inl (cI, 9, .inl g6)), (h9, .inl (cI, 9, .inl g7)), (h4, .inl (cI, 4096, .inl f_2))] H := hP
  replace hD : va_D A [(h0, .inr (0, [.ref h1, .ref h2, .ref h3, .ref h4, .ref h5, .ref h6, .int 0, .int a1, .int a5, .int 0])), (h1, .inl (cI, 2520, .inl g0)), (h2, .inl (cI, 2520, .inl g1)), (h5, .inl (cI, 81, .inl g4)), (h6, .inl (cI, 9, .inl g5)), (h7, .inr (7, [.ref h8, .ref h9, .ref h10, .ref h11, .ref h12, .ref h13, .int a4, .int a5, .int a6, .int a7, .int a8, .int a9, .int a10, .int a11])), (h8, .inl (cI, 9, .inl g6)), (h9, .inl (cI, 9, .inl g7)), (h4, .inl (cI, 4096, .inl f_2))] := hD
  refine lv_aload_n hx hb dX0_gather_26 rfl (lv_at hl 0 rfl) ?_
  refine lv_aload_n hx hb dX0_gather_27 rfl (lv_at hl 1 rfl) ?_
  refine va_get (D := (dC, dI)) (ci := 7) (v := .int a4) (C := RX7) (T := TX7) (N := 14) hx hb hts hinX7 hown hK hP 5 rfl rfl 6 (by decide) (hts (.fieldLink RX0 52 "MayRings$Ways" "houses" "I") (List.mem_of_getElem? (i := 9) rfl)) (fun _ h9 => h9) rfl dX0_gather_28 ?_
  have hPc := hP.sub (ws' := [(h0, .inr (0, [.ref h1, .ref h2, .ref h3, .ref h4, .ref h5, .ref h6, .int 0, .int a1, .int a5, .int 0])), (h5, .inl (cI, 81, .inl g4))]) [0, 3] rfl
  have hDc := hD.sub (ws' := [(h0, .inr (0, [.ref h1, .ref h2, .ref h3, .ref h4, .ref h5, .ref h6, .int 0, .int a1, .int a5, .int 0])), (h5, .inl (cI, 81, .inl g4))]) [0, 3] (by decide) rfl
  have hFc := va_free (wc := [(h0, .inr (0, [.ref h1, .ref h2, .ref h3, .ref h4, .ref h5, .ref h6, .int 0, .int a1, .int a5, .int 0])), (h5, .inl (cI, 81, .inl g4))]) hD hS hA [0, 3] rfl
  refine va_callv (va_runV (As := [.int a4]) (rest := []) ⟨hx, hb, hml, hown, hts⟩ (c_s_X0_numberPairs l dC dI cB cI cJ cZ cP h0 h1 h2 h3 h4 h5 g4 h6 0 a1 a5 0 a4 H.size) (cwV 1 hts (gd_V (List.mem_of_getElem? (i := 10) rfl) (List.mem_of_getElem? (i := 11) rfl) (List.mem_of_getElem? (i := 12) rfl) (List.mem_of_getElem? (i := 13) rfl) (gd_mono k_s_X0_numberPairs (fun _ h => List.mem_cons_of_mem _ (List.mem_append_right _ (List.mem_append_right _ (List.mem_append_right _ (List.mem_append_right _ (List.mem_append_left _ h)))))))) rfl rfl rfl (by decide +kernel) ⟨Nat.le_of_ble_eq_true rfl, Nat.le_of_ble_eq_true rfl⟩) ⟨fun a U g mk q => by obtain ⟨q0, q1, qP, qK, qD⟩ := q; exact ⟨q0, q1, qP, va_K.moved (u := U) (U := U.calling g mk a) (Vm.Alike.refl U.vm) qK, qD⟩, va_recv hK hPc (ci := 0) (q0 := 0) rfl rfl, fun U hU hW => ⟨rfl, by rw [hU], by rw [hU]; exact hPc, va_K.moved hW.alike hK, hDc.weaken (fun _ _ _ _ => trivial)⟩⟩ rfl rfl hl.1 rfl (lv_room (Nat.le_of_ble_eq_true rfl)) dX0_gather_31 ⟨Nat.le_of_ble_eq_true rfl, Nat.le_of_ble_eq_true rfl⟩) hS (fun q _ h => hFc q h) hFc (fun u t H1 locs ht hvm hw hB hz1 hk1 hS => ?_)
  obtain ⟨f_4, hP1, hD1⟩ := hB
  rw [ht] at hP1
  obtain ⟨hP, hD⟩ := va_join (wr := [(h1, .inl (cI, 2520, .inl g0)), (h2, .inl (cI, 2520, .inl g1)), (h6, .inl (cI, 9, .inl g5)), (h7, .inr (7, [.ref h8, .ref h9, .ref h10, .ref h11, .ref h12, .ref h13, .int a4, .int a5, .int a6, .int a7, .int a8, .int a9, .int a10, .int a11])), (h8, .inl (cI, 9, .inl g6)), (h9, .inl (cI, 9, .inl g7)), (h4, .inl (cI, 4096, .inl f_2))]) (w1 := [(h0, .inr (0, [.ref h1, .ref h2, .ref h3, .ref h4, .ref h5, .ref h6, .int 0, .int a1, .int a5, .int 0])), (h5, .inl (cI, 81, .inl f_4))]) hP hD [0, 3] [1, 2, 4, 5, 6, 7, 8] rfl rfl (by decide) (by decide) hk1 hFc hP1 hD1
  generalize H1 = H at hP hS ⊢
  replace hP : va_P (dC, dI) vwCl [(h1, .inl (cI, 2520, .inl g0)), (h2, .inl (cI, 2520, .inl g1)), (h6, .inl (cI, 9, .inl g5)), (h7, .inr (7, [.ref h8, .ref h9, .ref h10, .ref h11, .ref h12, .ref h13, .int a4, .int a5, .int a6, .int a7, .int a8, .int a9, .int a10, .int a11])), (h8, .inl (cI, 9, .inl g6)), (h9, .inl (cI, 9, .inl g7)), (h4, .inl (cI, 4096, .inl f_2)), (h0, .inr (0, [.ref h1, .ref h2, .ref h3, .ref h4, .ref h5, .ref h6, .int 0, .int a1, .int a5, .int 0])), (h5, .inl (cI, 81, .inl f_4))] H := hP
  replace hD : va_D A [(h1, .inl (cI, 2520, .inl g0)), (h2, .inl (cI, 2520, .inl g1)), (h6, .inl (cI, 9, .inl g5)), (h7, .inr (7, [.ref h8, .ref h9, .ref h10, .ref h11, .ref h12, .ref h13, .int a4, .int a5, .int a6, .int a7, .int a8, .int a9, .int a10, .int a11])), (h8, .inl (cI, 9, .inl g6)), (h9, .inl (cI, 9, .inl g7)), (h4, .inl (cI, 4096, .inl f_2)), (h0, .inr (0, [.ref h1, .ref h2, .ref h3, .ref h4, .ref h5, .ref h6, .int 0, .int a1, .int a5, .int 0])), (h5, .inl (cI, 81, .inl f_4))] := hD
  refine lv_aload_n hx hb dX0_gather_34 rfl (lv_at hl 0 rfl) ?_
  refine lv_aload_n hx hb dX0_gather_35 rfl (lv_at hl 1 rfl) ?_
  have hPc := hP.sub (ws' := [(h0, .inr (0, [.ref h1, .ref h2, .ref h3, .ref h4, .ref h5, .ref h6, .int 0, .int a1, .int a5, .int 0])), (h6, .inl (cI, 9, .inl g5)), (h7, .inr (7, [.ref h8, .ref h9, .ref h10, .ref h11, .ref h12, .ref h13, .int a4, .int a5, .int a6, .int a7, .int a8, .int a9, .int a10, .int a11])), (h8, .inl (cI, 9, .inl g6)), (h9, .inl (cI, 9, .inl g7))]) [7, 2, 3, 4, 5] rfl
  have hDc := hD.sub (ws' := [(h0, .inr (0, [.ref h1, .ref h2, .ref h3, .ref h4, .ref h5, .ref h6, .int 0, .int a1, .int a5, .int 0])), (h6, .inl (cI, 9, .inl g5)), (h7, .inr (7, [.ref h8, .ref h9, .ref h10, .ref h11, .ref h12, .ref h13, .int a4, .int a5, .int a6, .int a7, .int a8, .int a9, .int a10, .int a11])), (h8, .inl (cI, 9, .inl g6)), (h9, .inl (cI, 9, .inl g7))]) [7, 2, 3, 4, 5] (by decide) rfl
  have hFc := va_free (wc := [(h0, .inr (0, [.ref h1, .ref h2, .ref h3, .ref h4, .ref h5, .ref h6, .int 0, .int a1, .int a5, .int 0])), (h6, .inl (cI, 9, .inl g5)), (h7, .inr (7, [.ref h8, .ref h9, .ref h10, .ref h11, .ref h12, .ref h13, .int a4, .int a5, .int a6, .int a7, .int a8, .int a9, .int a10, .int a11])), (h8, .inl (cI, 9, .inl g6)), (h9, .inl (cI, 9, .inl g7))]) hD hS hA [7, 2, 3, 4, 5] rfl
  refine va_callv (va_runV (As := [.ref h7]) (rest := []) ⟨hx, hb, hml, hown, hts⟩ (c_s_X0_findTwins l dC dI cB cI cJ cZ cP h0 h1 h2 h3 h4 h5 h6 g5 0 a1 a5 (rg_mono ha5 (by decide) (by decide)) 0 h7 h8 g6 hg6 h9 g7 hg7 h10 h11 h12 h13 a4 (rg_mono ha4 (by decide) (by decide)) a5 a6 a7 a8 a9 a10 a11 H.size) (cwV 1 hts (gd_V (List.mem_of_getElem? (i := 14) rfl) (List.mem_of_getElem? (i := 15) rfl) (List.mem_of_getElem? (i := 16) rfl) (List.mem_of_getElem? (i := 13) rfl) (gd_mono k_s_X0_findTwins (fun _ h => List.mem_cons_of_mem _ (List.mem_append_right _ (List.mem_append_right _ (List.mem_append_right _ (List.mem_append_right _ (List.mem_append_right _ (List.mem_append_left _ h))))))))) rfl rfl rfl (by decide +kernel) ⟨Nat.le_of_ble_eq_true rfl, Nat.le_of_ble_eq_true rfl⟩) ⟨fun a U g mk q => by obtain ⟨q0, q1, qP, qK, qD⟩ := q; exact ⟨q0, q1, qP, va_K.moved (u := U) (U := U.calling g mk a) (Vm.Alike.refl U.vm) qK, qD⟩, va_recv hK hPc (ci := 0) (q0 := 0) rfl rfl, fun U hU hW => ⟨rfl, by rw [hU], by rw [hU]; exact hPc, va_K.moved hW.alike hK, hDc.weaken (fun _ _ _ _ => trivial)⟩⟩ rfl rfl hl.1 rfl (lv_room (Nat.le_of_ble_eq_true rfl)) dX0_gather_36 ⟨Nat.le_of_ble_eq_true rfl, Nat.le_of_ble_eq_true rfl⟩) hS (fun q _ h => hFc q h) hFc (fun u t H1 locs ht hvm hw hB hz1 hk1 hS => ?_)
  obtain ⟨f_6, hP1, hD1⟩ := hB
  rw [ht] at hP1
  obtain ⟨hP, hD⟩ := va_join (wr := [(h1, .inl (cI, 2520, .inl g0)), (h2, .inl (cI, 2520, .inl g1)), (h4, .inl (cI, 4096, .inl f_2)), (h5, .inl (cI, 81, .inl f_4))]) (w1 := [(h0, .inr (0, [.ref h1, .ref h2, .ref h3, .ref h4, .ref h5, .ref h6, .int 0, .int a1, .int a5, .int 0])), (h6, .inl (cI, 9, .inl f_6)), (h7, .inr (7, [.ref h8, .ref h9, .ref h10, .ref h11, .ref h12, .ref h13, .int a4, .int a5, .int a6, .int a7, .int a8, .int a9, .int a10, .int a11])), (h8, .inl (cI, 9, .inl g6)), (h9, .inl (cI, 9, .inl g7))]) hP hD [7, 2, 3, 4, 5] [0, 1, 6, 8] rfl rfl (by decide) (by decide) hk1 hFc hP1 hD1
  generalize H1 = H at hP hS ⊢
  replace hP : va_P (dC, dI) vwCl [(h1, .inl (cI, 2520, .inl g0)), (h2, .inl (cI, 2520, .inl g1)), (h4, .inl (cI, 4096, .inl f_2)), (h5, .inl (cI, 81, .inl f_4)), (h0, .inr (0, [.ref h1, .ref h2, .ref h3, .ref h4, .ref h5, .ref h6, .int 0, .int a1, .int a5, .int 0])), (h6, .inl (cI, 9, .inl f_6)), (h7, .inr (7, [.ref h8, .ref h9, .ref h10, .ref h11, .ref h12, .ref h13, .int a4, .int a5, .int a6, .int a7, .int a8, .int a9, .int a10, .int a11])), (h8, .inl (cI, 9, .inl g6)), (h9, .inl (cI, 9, .inl g7))] H := hP
  replace hD : va_D A [(h1, .inl (cI, 2520, .inl g0)), (h2, .inl (cI, 2520, .inl g1)), (h4, .inl (cI, 4096, .inl f_2)), (h5, .inl (cI, 81, .inl f_4)), (h0, .inr (0, [.ref h1, .ref h2, .ref h3, .ref h4, .ref h5, .ref h6, .int 0, .int a1, .int a5, .int 0])), (h6, .inl (cI, 9, .inl f_6)), (h7, .inr (7, [.ref h8, .ref h9, .ref h10, .ref h11, .ref h12, .ref h13, .int a4, .int a5, .int a6, .int a7, .int a8, .int a9, .int a10, .int a11])), (h8, .inl (cI, 9, .inl g6)), (h9, .inl (cI, 9, .inl g7))] := hD
  refine lv_aload_n hx hb dX0_gather_39 rfl (lv_at hl 0 rfl) ?_
  refine va_get (D := (dC, dI)) (ci := 0) (v := .int a5) (C := RX0) (T := TX0) (N := 10) hx hb hts hinX0 hown hK hP 4 rfl rfl 8 (by decide) (hts (.fieldLink RX0 37 "MayRings$Families" "size" "I") (List.mem_of_getElem? (i := 8) rfl)) (fun _ h9 => h9) rfl dX0_gather_40 ?_
  refine lv_if_ne (tgt := 52) hx hb dX0_gather_43 (by decide) (fun c_7 => ?_) (fun c_7 => ?_)
  · skip
    have h_8 : rg (1) (9) a5 := by have ha := ha5; have hb_ := (rg_k (x := 0) (c := 0) (by decide)); simp only [rg, fa_lt, fa_le, fa_eq, (by decide : (0 : Int32).toInt = 0)] at ha hb_ c_7; simp only [rg]; omega
    refine lv_iconst (v := 0) hx hb dX0_gather_52 (by decide) ?_
    refine lv_istore_n (lv' := [(2, .int 0), (0, .ref h0), (1, .ref h7)]) hx hb dX0_gather_53 rfl hl (by decide) rfl (fun ls hl => ?_)
    refine W_loopM (σ := Int32 × (Nat → Int32) × (Nat → Int32) × (Nat → Int32) × Int32 × Int32) (fun u H locs ls => va_P (dC, dI) vwCl [(h1, .inl (cI, 2520, .inl u.2.1)), (h2, .inl (cI, 2520, .inl u.2.2.1)), (h4, .inl (cI, 4096, .inl u.2.2.2.1)), (h5, .inl (cI, 81, .inl f_4)), (h0, .inr (0, [.ref h1, .ref h2, .ref h3, .ref h4, .ref h5, .ref h6, .int u.2.2.2.2.1, .int a1, .int a5, .int u.2.2.2.2.2])), (h6, .inl (cI, 9, .inl f_6)), (h7, .inr (7, [.ref h8, .ref h9, .ref h10, .ref h11, .ref h12, .ref h13, .int a4, .int a5, .int a6, .int a7, .int a8, .int a9, .int a10, .int a11])), (h8, .inl (cI, 9, .inl g6)), (h9, .inl (cI, 9, .inl g7))] H ∧ va_D A [(h1, .inl (cI, 2520, .inl u.2.1)), (h2, .inl (cI, 2520, .inl u.2.2.1)), (h4, .inl (cI, 4096, .inl u.2.2.2.1)), (h5, .inl (cI, 81, .inl f_4)), (h0, .inr (0, [.ref h1, .ref h2, .ref h3, .ref h4, .ref h5, .ref h6, .int u.2.2.2.2.1, .int a1, .int a5, .int u.2.2.2.2.2])), (h6, .inl (cI, 9, .inl f_6)), (h7, .inr (7, [.ref h8, .ref h9, .ref h10, .ref h11, .ref h12, .ref h13, .int a4, .int a5, .int a6, .int a7, .int a8, .int a9, .int a10, .int a11])), (h8, .inl (cI, 9, .inl g6)), (h9, .inl (cI, 9, .inl g7))] ∧ va_S A s.heap H locs ∧ lv_has ls 3 [(2, .int u.1), (0, .ref h0), (1, .ref h7)] ∧ rg (0) (9) u.1 ∧ rg (0) (2520) u.2.2.2.2.1 ∧ (nbA u.2.2.1)) (fun u => ((9) - u.1.toInt).toNat) 54 [] ?_ (0, g0, g1, f_2, 0, 0) H locs ls ⟨hP, hD, hS, hl, (rg_mono (rg_k (x := 0) (c := 0) (by decide)) (by decide) (by decide)), (rg_mono (rg_k (x := 0) (c := 0) (by decide)) (by decide) (by decide)), kr0⟩
    rintro ⟨x_260, f_261, f_262, f_263, x_264, x_265⟩ H locs ls ⟨hP, hD, hS, hl, hx_260, hx_264, kl54_265_0⟩ ih_291
    replace kl54_265_0 : nbA f_262 := kl54_265_0
    replace hP : va_P (dC, dI) vwCl [(h1, .inl (cI, 2520, .inl f_261)), (h2, .inl (cI, 2520, .inl f_262)), (h4, .inl (cI, 4096, .inl f_263)), (h5, .inl (cI, 81, .inl f_4)), (h0, .inr (0, [.ref h1, .ref h2, .ref h3, .ref h4, .ref h5, .ref h6, .int x_264, .int a1, .int a5, .int x_265])), (h6, .inl (cI, 9, .inl f_6)), (h7, .inr (7, [.ref h8, .ref h9, .ref h10, .ref h11, .ref h12, .ref h13, .int a4, .int a5, .int a6, .int a7, .int a8, .int a9, .int a10, .int a11])), (h8, .inl (cI, 9, .inl g6)), (h9, .inl (cI, 9, .inl g7))] H := hP
    replace hD : va_D A [(h1, .inl (cI, 2520, .inl f_261)), (h2, .inl (cI, 2520, .inl f_262)), (h4, .inl (cI, 4096, .inl f_263)), (h5, .inl (cI, 81, .inl f_4)), (h0, .inr (0, [.ref h1, .ref h2, .ref h3, .ref h4, .ref h5, .ref h6, .int x_264, .int a1, .int a5, .int x_265])), (h6, .inl (cI, 9, .inl f_6)), (h7, .inr (7, [.ref h8, .ref h9, .ref h10, .ref h11, .ref h12, .ref h13, .int a4, .int a5, .int a6, .int a7, .int a8, .int a9, .int a10, .int a11])), (h8, .inl (cI, 9, .inl g6)), (h9, .inl (cI, 9, .inl g7))] := hD
    replace hl : lv_has ls 3 [(2, .int x_260), (0, .ref h0), (1, .ref h7)] := hl
    replace hx_260 : rg (0) (9) x_260 := hx_260
    replace hx_264 : rg (0) (2520) x_264 := hx_264
    refine lv_iload_n hx hb dX0_gather_54 rfl (lv_at hl 0 rfl) ?_
    refine lv_bipush (v := 9) hx hb dX0_gather_55 (by decide) ?_
    refine lv_icmp_ge (tgt := 107) hx hb dX0_gather_57 (by decide) (fun c_292 => ?_) (fun c_292 => ?_)
    · skip
      have h_293 : rg (9) (9) x_260 := by have ha := hx_260; have hb_ := (rg_k (x := 9) (c := 9) (by decide)); simp only [rg, fa_lt, fa_le, fa_eq, (by decide : (9 : Int32).toInt = 9)] at ha hb_ c_292; simp only [rg]; omega
      have hP9 := hP.sub (ws' := [(h0, .inr (0, [.ref h1, .ref h2, .ref h3, .ref h4, .ref h5, .ref h6, .int x_264, .int a1, .int a5, .int x_265])), (h1, .inl (cI, 2520, .inl f_261)), (h2, .inl (cI, 2520, .inl f_262)), (h4, .inl (cI, 4096, .inl f_263)), (h5, .inl (cI, 81, .inl f_4)), (h6, .inl (cI, 9, .inl f_6)), (h7, .inr (7, [.ref h8, .ref h9, .ref h10, .ref h11, .ref h12, .ref h13, .int a4, .int a5, .int a6, .int a7, .int a8, .int a9, .int a10, .int a11])), (h8, .inl (cI, 9, .inl g6)), (h9, .inl (cI, 9, .inl g7))]) [4, 0, 1, 2, 3, 5, 6, 7, 8] rfl
      have hD9 := hD.sub (ws' := [(h0, .inr (0, [.ref h1, .ref h2, .ref h3, .ref h4, .ref h5, .ref h6, .int x_264, .int a1, .int a5, .int x_265])), (h1, .inl (cI, 2520, .inl f_261)), (h2, .inl (cI, 2520, .inl f_262)), (h4, .inl (cI, 4096, .inl f_263)), (h5, .inl (cI, 81, .inl f_4)), (h6, .inl (cI, 9, .inl f_6)), (h7, .inr (7, [.ref h8, .ref h9, .ref h10, .ref h11, .ref h12, .ref h13, .int a4, .int a5, .int a6, .int a7, .int a8, .int a9, .int a10, .int a11])), (h8, .inl (cI, 9, .inl g6)), (h9, .inl (cI, 9, .inl g7))]) [4, 0, 1, 2, 3, 5, 6, 7, 8] (by decide) rfl
      exact W.vret hx hb hr (fun t ht hW => ⟨⟨(), rfl, trivial, ⟨x_264, x_265, f_261, f_262, f_263, f_4, f_6, (rg_mono hx_264 (by decide) (by decide)), kl54_265_0, by rw [ht]; exact hP9, hD9⟩⟩, hS.F ht⟩) hS.2.2 dX0_gather_107
    · skip
      have h_294 : rg (0) (8) x_260 := by have ha := hx_260; have hb_ := (rg_k (x := 9) (c := 9) (by decide)); simp only [rg, fa_lt, fa_le, fa_eq, (by decide : (9 : Int32).toInt = 9)] at ha hb_ c_292; simp only [rg]; omega
      refine lv_aload_n hx hb dX0_gather_60 rfl (lv_at hl 1 rfl) ?_
      refine va_get (D := (dC, dI)) (ci := 0) (v := .int a5) (C := RX0) (T := TX0) (N := 10) hx hb hts hinX0 hown hK hP 4 rfl rfl 8 (by decide) (hts (.fieldLink RX0 37 "MayRings$Families" "size" "I") (List.mem_of_getElem? (i := 8) rfl)) (fun _ h9 => h9) rfl dX0_gather_61 ?_
      refine lv_if_le (tgt := 107) hx hb dX0_gather_64 (by decide) (fun c_295 => ?_) (fun c_295 => ?_)
      · skip
        exfalso; have ha := h_8; have hb_ := (rg_k (x := 0) (c := 0) (by decide)); simp only [rg, fa_lt, fa_le, fa_eq, (by decide : (0 : Int32).toInt = 0)] at ha hb_ c_295; omega
      · skip
        refine lv_aload_n hx hb dX0_gather_67 rfl (lv_at hl 1 rfl) ?_
        refine va_get (D := (dC, dI)) (ci := 0) (v := .int a5) (C := RX0) (T := TX0) (N := 10) hx hb hts hinX0 hown hK hP 4 rfl rfl 8 (by decide) (hts (.fieldLink RX0 37 "MayRings$Families" "size" "I") (List.mem_of_getElem? (i := 8) rfl)) (fun _ h9 => h9) rfl dX0_gather_68 ?_
        refine lv_bipush (v := 7) hx hb dX0_gather_71 (by decide) ?_
        refine lv_icmp_gt (tgt := 107) hx hb dX0_gather_73 (by decide) (fun c_296 => ?_) (fun c_296 => ?_)
        · skip
          have h_297 : rg (8) (9) a5 := by have ha := h_8; have hb_ := (rg_k (x := 7) (c := 7) (by decide)); simp only [rg, fa_lt, fa_le, fa_eq, (by decide : (7 : Int32).toInt = 7)] at ha hb_ c_296; simp only [rg]; omega
          have hP9 := hP.sub (ws' := [(h0, .inr (0, [.ref h1, .ref h2, .ref h3, .ref h4, .ref h5, .ref h6, .int x_264, .int a1, .int a5, .int x_265])), (h1, .inl (cI, 2520, .inl f_261)), (h2, .inl (cI, 2520, .inl f_262)), (h4, .inl (cI, 4096, .inl f_263)), (h5, .inl (cI, 81, .inl f_4)), (h6, .inl (cI, 9, .inl f_6)), (h7, .inr (7, [.ref h8, .ref h9, .ref h10, .ref h11, .ref h12, .ref h13, .int a4, .int a5, .int a6, .int a7, .int a8, .int a9, .int a10, .int a11])), (h8, .inl (cI, 9, .inl g6)), (h9, .inl (cI, 9, .inl g7))]) [4, 0, 1, 2, 3, 5, 6, 7, 8] rfl
          have hD9 := hD.sub (ws' := [(h0, .inr (0, [.ref h1, .ref h2, .ref h3, .ref h4, .ref h5, .ref h6, .int x_264, .int a1, .int a5, .int x_265])), (h1, .inl (cI, 2520, .inl f_261)), (h2, .inl (cI, 2520, .inl f_262)), (h4, .inl (cI, 4096, .inl f_263)), (h5, .inl (cI, 81, .inl f_4)), (h6, .inl (cI, 9, .inl f_6)), (h7, .inr (7, [.ref h8, .ref h9, .ref h10, .ref h11, .ref h12, .ref h13, .int a4, .int a5, .int a6, .int a7, .int a8, .int a9, .int a10, .int a11])), (h8, .inl (cI, 9, .inl g6)), (h9, .inl (cI, 9, .inl g7))]) [4, 0, 1, 2, 3, 5, 6, 7, 8] (by decide) rfl
          exact W.vret hx hb hr (fun t ht hW => ⟨⟨(), rfl, trivial, ⟨x_264, x_265, f_261, f_262, f_263, f_4, f_6, (rg_mono hx_264 (by decide) (by decide)), kl54_265_0, by rw [ht]; exact hP9, hD9⟩⟩, hS.F ht⟩) hS.2.2 dX0_gather_107
        · skip
          have h_298 : rg (1) (7) a5 := by have ha := h_8; have hb_ := (rg_k (x := 7) (c := 7) (by decide)); simp only [rg, fa_lt, fa_le, fa_eq, (by decide : (7 : Int32).toInt = 7)] at ha hb_ c_296; simp only [rg]; omega
          refine lv_aload_n hx hb dX0_gather_76 rfl (lv_at hl 2 rfl) ?_
          refine va_get (D := (dC, dI)) (ci := 7) (v := .ref h8) (C := RX7) (T := TX7) (N := 14) hx hb hts hinX7 hown hK hP 6 rfl rfl 0 (by decide) (hts (.fieldLink RX0 67 "MayRings$Ways" "ground" "[I") (List.mem_of_getElem? (i := 17) rfl)) (fun _ h9 => h9) rfl dX0_gather_77 ?_
          refine lv_iconst (v := 0) hx hb dX0_gather_80 (by decide) ?_
          refine va_iald hx hb hK hP 7 1 rfl rfl (rg_in (n := 9) (rg_mono (rg_k (x := 0) (c := 0) (by decide)) (by decide) (by decide))) dX0_gather_81 ?_
          refine lv_topi (fun x_299 ex_299 => ?_)
          have hx_299 : rg (0) (511) x_299 := by rw [ex_299]; exact rg_mono (hg6 _) (by decide) (by decide)
          refine lv_iload_n hx hb dX0_gather_82 rfl (lv_at hl 0 rfl) ?_
          refine lv_ishr hx hb dX0_gather_83 ?_
          refine lv_topi (fun x_300 ex_300 => ?_)
          have hx_300 : rg (0) (511) x_300 := by rw [ex_300]; exact rg_mono (rg_shr (b := 511) (rg_mono hx_299 (by decide) (by decide))) (by decide) (by decide)
          have kx_300_0 : rg 1 2147483647 x_300 → rg 1 (511) x_299 := fun hq => rg_shrP hx_299 (ex_300 ▸ hq)
          refine lv_iconst (v := 1) hx hb dX0_gather_84 (by decide) ?_
          refine lv_iand hx hb dX0_gather_85 ?_
          refine lv_topi (fun x_301 ex_301 => ?_)
          have hx_301 : rg (0) (1) x_301 := by rw [ex_301]; exact rg_mono (rg_andr (b := 1) (rg_mono (rg_k (x := 1) (c := 1) (by decide)) (by decide) (by decide))) (by decide) (by decide)
          have kx_301_0 : rg 1 2147483647 x_301 → rg 1 (511) x_300 := fun hq => rg_andP hx_300 (ex_301 ▸ hq)
          refine lv_iconst (v := 1) hx hb dX0_gather_86 (by decide) ?_
          refine lv_icmp_ne (tgt := 101) hx hb dX0_gather_87 (by decide) (fun c_302 => ?_) (fun c_302 => ?_)
          · skip
            have h_303 : rg (0) (0) x_301 := by have ha := hx_301; have hb_ := (rg_k (x := 1) (c := 1) (by decide)); simp only [rg, fa_lt, fa_le, fa_eq, (by decide : (1 : Int32).toInt = 1)] at ha hb_ c_302; simp only [rg]; omega
            obtain ⟨x_304, ex_304⟩ : ∃ y : Int32, y = x_260 + Int32.ofInt (1) := ⟨_, rfl⟩
            have hx_304 : rg (1) (9) x_304 := by rw [ex_304]; exact rg_mono (rg_add h_294 (rg_k (x := Int32.ofInt (1)) (c := 1) (by decide)) (by decide) (by decide)) (by decide) (by decide)
            have qx_304 : x_304.toInt = x_260.toInt + (1) := by rw [ex_304]; exact rg_addE h_294 (rg_k (x := Int32.ofInt (1)) (c := 1) (by decide)) (by decide) (by decide) (by decide)
            refine lv_iinc (v := x_304) (lv' := [(2, .int x_304), (0, .ref h0), (1, .ref h7)]) hx hb dX0_gather_101 hl (k := 0) rfl (ex_304.symm) (by decide) rfl (fun ls hl => ?_)
            clear ex_304
            refine lv_goto (tgt := 54) hx hb dX0_gather_104 (by decide) ?_
            exact ih_291 (x_304, f_261, f_262, f_263, x_264, x_265) H locs ls ⟨hP.sub (ws' := [(h1, .inl (cI, 2520, .inl f_261)), (h2, .inl (cI, 2520, .inl f_262)), (h4, .inl (cI, 4096, .inl f_263)), (h5, .inl (cI, 81, .inl f_4)), (h0, .inr (0, [.ref h1, .ref h2, .ref h3, .ref h4, .ref h5, .ref h6, .int x_264, .int a1, .int a5, .int x_265])), (h6, .inl (cI, 9, .inl f_6)), (h7, .inr (7, [.ref h8, .ref h9, .ref h10, .ref h11, .ref h12, .ref h13, .int a4, .int a5, .int a6, .int a7, .int a8, .int a9, .int a10, .int a11])), (h8, .inl (cI, 9, .inl g6)), (h9, .inl (cI, 9, .inl g7))]) [0, 1, 2, 3, 4, 5, 6, 7, 8] rfl, hD.sub (ws' := [(h1, .inl (cI, 2520, .inl f_261)), (h2, .inl (cI, 2520, .inl f_262)), (h4, .inl (cI, 4096, .inl f_263)), (h5, .inl (cI, 81, .inl f_4)), (h0, .inr (0, [.ref h1, .ref h2, .ref h3, .ref h4, .ref h5, .ref h6, .int x_264, .int a1, .int a5, .int x_265])), (h6, .inl (cI, 9, .inl f_6)), (h7, .inr (7, [.ref h8, .ref h9, .ref h10, .ref h11, .ref h12, .ref h13, .int a4, .int a5, .int a6, .int a7, .int a8, .int a9, .int a10, .int a11])), (h8, .inl (cI, 9, .inl g6)), (h9, .inl (cI, 9, .inl g7))]) [0, 1, 2, 3, 4, 5, 6, 7, 8] (by decide) rfl, hS, lv_sub hl [0, 1, 2] rfl, (rg_mono hx_304 (by decide) (by decide)), (rg_mono hx_264 (by decide) (by decide)), kl54_265_0⟩ (by show ((9) - x_304.toInt).toNat < ((9) - x_260.toInt).toNat; have ha := h_294; simp only [rg] at ha; omega)
          · skip
            have h_305 : rg (1) (1) x_301 := by have ha := hx_301; have hb_ := (rg_k (x := 1) (c := 1) (by decide)); simp only [rg, fa_lt, fa_le, fa_eq, (by decide : (1 : Int32).toInt = 1)] at ha hb_ c_302; simp only [rg]; omega
            have h_306 : rg (1) (511) x_300 := rg_meet hx_300 (kx_301_0 (rg_mono h_305 (by decide) (by decide))) (by decide) (by decide)
            have h_307 : rg (1) (511) x_299 := rg_meet hx_299 (kx_300_0 (rg_mono h_306 (by decide) (by decide))) (by decide) (by decide)
            refine lv_aload_n hx hb dX0_gather_90 rfl (lv_at hl 1 rfl) ?_
            refine lv_aload_n hx hb dX0_gather_91 rfl (lv_at hl 2 rfl) ?_
            refine lv_iconst (v := 1) hx hb dX0_gather_92 (by decide) ?_
            refine lv_iload_n hx hb dX0_gather_93 rfl (lv_at hl 0 rfl) ?_
            refine lv_ishl hx hb dX0_gather_94 ?_
            refine lv_topi (fun x_308 ex_308 => ?_)
            have hx_308 : rg (1) (256) x_308 := by rw [ex_308]; exact rg_mono (rg_shl1 8 (rg_mono h_294 (by decide) (by decide)) (by decide)) (by decide) (by decide)
            refine lv_iload_n hx hb dX0_gather_95 rfl (lv_at hl 0 rfl) ?_
            refine lv_iconst (v := 0) hx hb dX0_gather_96 (by decide) ?_
            refine lv_iload_n hx hb dX0_gather_97 rfl (lv_at hl 0 rfl) ?_
            have hPc := hP.sub (ws' := [(h0, .inr (0, [.ref h1, .ref h2, .ref h3, .ref h4, .ref h5, .ref h6, .int x_264, .int a1, .int a5, .int x_265])), (h1, .inl (cI, 2520, .inl f_261)), (h2, .inl (cI, 2520, .inl f_262)), (h4, .inl (cI, 4096, .inl f_263)), (h5, .inl (cI, 81, .inl f_4)), (h7, .inr (7, [.ref h8, .ref h9, .ref h10, .ref h11, .ref h12, .ref h13, .int a4, .int a5, .int a6, .int a7, .int a8, .int a9, .int a10, .int a11])), (h8, .inl (cI, 9, .inl g6)), (h9, .inl (cI, 9, .inl g7))]) [4, 0, 1, 2, 3, 6, 7, 8] rfl
            have hDc := hD.sub (ws' := [(h0, .inr (0, [.ref h1, .ref h2, .ref h3, .ref h4, .ref h5, .ref h6, .int x_264, .int a1, .int a5, .int x_265])), (h1, .inl (cI, 2520, .inl f_261)), (h2, .inl (cI, 2520, .inl f_262)), (h4, .inl (cI, 4096, .inl f_263)), (h5, .inl (cI, 81, .inl f_4)), (h7, .inr (7, [.ref h8, .ref h9, .ref h10, .ref h11, .ref h12, .ref h13, .int a4, .int a5, .int a6, .int a7, .int a8, .int a9, .int a10, .int a11])), (h8, .inl (cI, 9, .inl g6)), (h9, .inl (cI, 9, .inl g7))]) [4, 0, 1, 2, 3, 6, 7, 8] (by decide) rfl
            have hFc := va_free (wc := [(h0, .inr (0, [.ref h1, .ref h2, .ref h3, .ref h4, .ref h5, .ref h6, .int x_264, .int a1, .int a5, .int x_265])), (h1, .inl (cI, 2520, .inl f_261)), (h2, .inl (cI, 2520, .inl f_262)), (h4, .inl (cI, 4096, .inl f_263)), (h5, .inl (cI, 81, .inl f_4)), (h7, .inr (7, [.ref h8, .ref h9, .ref h10, .ref h11, .ref h12, .ref h13, .int a4, .int a5, .int a6, .int a7, .int a8, .int a9, .int a10, .int a11])), (h8, .inl (cI, 9, .inl g6)), (h9, .inl (cI, 9, .inl g7))]) hD hS hA [4, 0, 1, 2, 3, 6, 7, 8] rfl
            refine va_callv (va_runV (As := [.ref h7, .int x_308, .int x_260, .int 0, .int x_260]) (rest := []) ⟨hx, hb, hml, hown, hts⟩ (c_s_X0_walk_k1 l dC dI cB cI cJ cZ cP h0 h1 f_261 h2 f_262 h3 h4 f_263 h5 f_4 h6 x_264 (rg_mono hx_264 (by decide) (by decide)) a1 a5 (rg_mono h_298 (by decide) (by decide)) x_265 h7 h8 g6 hg6 h9 g7 hg7 h10 h11 h12 h13 a4 a5 a6 (rg_mono ha6 (by decide) (by decide)) a7 a8 a9 a10 a11 x_308 (rg_mono hx_308 (by decide) (by decide)) x_260 (rg_mono h_294 (by decide) (by decide)) 0 x_260 kl54_265_0 (show bcE x_308 = 1 from (by rw [ex_308]; exact bc_1 h_294)) (show nbk 1 x_260 from nbk_1 (rg_mono h_294 (by decide) (by decide))) H.size) (cwV 5 hts (gd_V (List.mem_of_getElem? (i := 18) rfl) (List.mem_of_getElem? (i := 19) rfl) (List.mem_of_getElem? (i := 20) rfl) (List.mem_of_getElem? (i := 13) rfl) (gd_mono k_s_X0_walk_k1 (fun _ h => List.mem_cons_of_mem _ (List.mem_append_right _ (List.mem_append_right _ (List.mem_append_right _ (List.mem_append_right _ (List.mem_append_right _ (List.mem_append_right _ (List.mem_append_left _ h)))))))))) rfl rfl rfl (by decide +kernel) ⟨Nat.le_of_ble_eq_true rfl, Nat.le_of_ble_eq_true rfl⟩) ⟨fun a U g mk q => by obtain ⟨q0, q1, qP, qK, qD⟩ := q; exact ⟨q0, q1, qP, va_K.moved (u := U) (U := U.calling g mk a) (Vm.Alike.refl U.vm) qK, qD⟩, va_recv hK hPc (ci := 0) (q0 := 0) rfl rfl, fun U hU hW => ⟨rfl, by rw [hU], by rw [hU]; exact hPc, va_K.moved hW.alike hK, hDc.weaken (fun _ _ _ _ => trivial)⟩⟩ rfl rfl hl.1 rfl (lv_room (Nat.le_of_ble_eq_true rfl)) dX0_gather_98 ⟨Nat.le_of_ble_eq_true rfl, Nat.le_of_ble_eq_true rfl⟩) hS (fun q _ h => hFc q h) hFc (fun u t H1 locs ht hvm hw hB hz1 hk1 hS => ?_)
            obtain ⟨x_310, x_311, f_312, f_313, f_314, hx_310, k_315, hP1, hD1⟩ := hB
            rw [ht] at hP1
            obtain ⟨hP, hD⟩ := va_join (wr := [(h6, .inl (cI, 9, .inl f_6))]) (w1 := [(h0, .inr (0, [.ref h1, .ref h2, .ref h3, .ref h4, .ref h5, .ref h6, .int x_310, .int a1, .int a5, .int x_311])), (h1, .inl (cI, 2520, .inl f_312)), (h2, .inl (cI, 2520, .inl f_313)), (h4, .inl (cI, 4096, .inl f_314)), (h5, .inl (cI, 81, .inl f_4)), (h7, .inr (7, [.ref h8, .ref h9, .ref h10, .ref h11, .ref h12, .ref h13, .int a4, .int a5, .int a6, .int a7, .int a8, .int a9, .int a10, .int a11])), (h8, .inl (cI, 9, .inl g6)), (h9, .inl (cI, 9, .inl g7))]) hP hD [4, 0, 1, 2, 3, 6, 7, 8] [5] rfl rfl (by decide) (by decide) hk1 hFc hP1 hD1
            generalize H1 = H at hP hS ⊢
            replace hP : va_P (dC, dI) vwCl [(h6, .inl (cI, 9, .inl f_6)), (h0, .inr (0, [.ref h1, .ref h2, .ref h3, .ref h4, .ref h5, .ref h6, .int x_310, .int a1, .int a5, .int x_311])), (h1, .inl (cI, 2520, .inl f_312)), (h2, .inl (cI, 2520, .inl f_313)), (h4, .inl (cI, 4096, .inl f_314)), (h5, .inl (cI, 81, .inl f_4)), (h7, .inr (7, [.ref h8, .ref h9, .ref h10, .ref h11, .ref h12, .ref h13, .int a4, .int a5, .int a6, .int a7, .int a8, .int a9, .int a10, .int a11])), (h8, .inl (cI, 9, .inl g6)), (h9, .inl (cI, 9, .inl g7))] H := hP
            replace hD : va_D A [(h6, .inl (cI, 9, .inl f_6)), (h0, .inr (0, [.ref h1, .ref h2, .ref h3, .ref h4, .ref h5, .ref h6, .int x_310, .int a1, .int a5, .int x_311])), (h1, .inl (cI, 2520, .inl f_312)), (h2, .inl (cI, 2520, .inl f_313)), (h4, .inl (cI, 4096, .inl f_314)), (h5, .inl (cI, 81, .inl f_4)), (h7, .inr (7, [.ref h8, .ref h9, .ref h10, .ref h11, .ref h12, .ref h13, .int a4, .int a5, .int a6, .int a7, .int a8, .int a9, .int a10, .int a11])), (h8, .inl (cI, 9, .inl g6)), (h9, .inl (cI, 9, .inl g7))] := hD
            obtain ⟨x_316, ex_316⟩ : ∃ y : Int32, y = x_260 + Int32.ofInt (1) := ⟨_, rfl⟩
            have hx_316 : rg (1) (9) x_316 := by rw [ex_316]; exact rg_mono (rg_add h_294 (rg_k (x := Int32.ofInt (1)) (c := 1) (by decide)) (by decide) (by decide)) (by decide) (by decide)
            have qx_316 : x_316.toInt = x_260.toInt + (1) := by rw [ex_316]; exact rg_addE h_294 (rg_k (x := Int32.ofInt (1)) (c := 1) (by decide)) (by decide) (by decide) (by decide)
            refine lv_iinc (v := x_316) (lv' := [(2, .int x_316), (0, .ref h0), (1, .ref h7)]) hx hb dX0_gather_101 hl (k := 0) rfl (ex_316.symm) (by decide) rfl (fun ls hl => ?_)
            clear ex_316
            refine lv_goto (tgt := 54) hx hb dX0_gather_104 (by decide) ?_
            exact ih_291 (x_316, f_312, f_313, f_314, x_310, x_311) H locs ls ⟨hP.sub (ws' := [(h1, .inl (cI, 2520, .inl f_312)), (h2, .inl (cI, 2520, .inl f_313)), (h4, .inl (cI, 4096, .inl f_314)), (h5, .inl (cI, 81, .inl f_4)), (h0, .inr (0, [.ref h1, .ref h2, .ref h3, .ref h4, .ref h5, .ref h6, .int x_310, .int a1, .int a5, .int x_311])), (h6, .inl (cI, 9, .inl f_6)), (h7, .inr (7, [.ref h8, .ref h9, .ref h10, .ref h11, .ref h12, .ref h13, .int a4, .int a5, .int a6, .int a7, .int a8, .int a9, .int a10, .int a11])), (h8, .inl (cI, 9, .inl g6)), (h9, .inl (cI, 9, .inl g7))]) [2, 3, 4, 5, 1, 0, 6, 7, 8] rfl, hD.sub (ws' := [(h1, .inl (cI, 2520, .inl f_312)), (h2, .inl (cI, 2520, .inl f_313)), (h4, .inl (cI, 4096, .inl f_314)), (h5, .inl (cI, 81, .inl f_4)), (h0, .inr (0, [.ref h1, .ref h2, .ref h3, .ref h4, .ref h5, .ref h6, .int x_310, .int a1, .int a5, .int x_311])), (h6, .inl (cI, 9, .inl f_6)), (h7, .inr (7, [.ref h8, .ref h9, .ref h10, .ref h11, .ref h12, .ref h13, .int a4, .int a5, .int a6, .int a7, .int a8, .int a9, .int a10, .int a11])), (h8, .inl (cI, 9, .inl g6)), (h9, .inl (cI, 9, .inl g7))]) [2, 3, 4, 5, 1, 0, 6, 7, 8] (by decide) rfl, hS, lv_sub hl [0, 1, 2] rfl, (rg_mono hx_316 (by decide) (by decide)), (rg_mono hx_310 (by decide) (by decide)), k_315⟩ (by show ((9) - x_316.toInt).toNat < ((9) - x_260.toInt).toNat; have ha := h_294; simp only [rg] at ha; omega)
  · skip
    have h_317 : rg (0) (0) a5 := by have ha := ha5; have hb_ := (rg_k (x := 0) (c := 0) (by decide)); simp only [rg, fa_lt, fa_le, fa_eq, (by decide : (0 : Int32).toInt = 0)] at ha hb_ c_7; simp only [rg]; omega
    refine lv_aload_n hx hb dX0_gather_46 rfl (lv_at hl 0 rfl) ?_
    refine lv_iconst (v := 0) hx hb dX0_gather_47 (by decide) ?_
    refine lv_iconst (v := 0) hx hb dX0_gather_48 (by decide) ?_
    have hPc := hP.sub (ws' := [(h0, .inr (0, [.ref h1, .ref h2, .ref h3, .ref h4, .ref h5, .ref h6, .int 0, .int a1, .int a5, .int 0])), (h1, .inl (cI, 2520, .inl g0)), (h2, .inl (cI, 2520, .inl g1)), (h4, .inl (cI, 4096, .inl f_2))]) [4, 0, 1, 2] rfl
    have hDc := hD.sub (ws' := [(h0, .inr (0, [.ref h1, .ref h2, .ref h3, .ref h4, .ref h5, .ref h6, .int 0, .int a1, .int a5, .int 0])), (h1, .inl (cI, 2520, .inl g0)), (h2, .inl (cI, 2520, .inl g1)), (h4, .inl (cI, 4096, .inl f_2))]) [4, 0, 1, 2] (by decide) rfl
    have hFc := va_free (wc := [(h0, .inr (0, [.ref h1, .ref h2, .ref h3, .ref h4, .ref h5, .ref h6, .int 0, .int a1, .int a5, .int 0])), (h1, .inl (cI, 2520, .inl g0)), (h2, .inl (cI, 2520, .inl g1)), (h4, .inl (cI, 4096, .inl f_2))]) hD hS hA [4, 0, 1, 2] rfl
    refine va_callv (va_runV (As := [.int 0, .int 0]) (rest := []) ⟨hx, hb, hml, hown, hts⟩ (c_s_X0_put l dC dI cB cI cJ cZ cP h0 h1 g0 h2 g1 h3 h4 f_2 h5 h6 0 (rg_mono (rg_k (x := 0) (c := 0) (by decide)) (by decide) (by decide)) a1 a5 0 0 0 kr0 (show nb (0 : Int32) from nb_z) H.size) (cwV 2 hts (gd_V (List.mem_of_getElem? (i := 21) rfl) (List.mem_of_getElem? (i := 22) rfl) (List.mem_of_getElem? (i := 23) rfl) (List.mem_of_getElem? (i := 13) rfl) (gd_mono k_s_X0_put (fun _ h => List.mem_cons_of_mem _ (List.mem_append_right _ (List.mem_append_right _ (List.mem_append_right _ (List.mem_append_right _ (List.mem_append_right _ (List.mem_append_right _ (List.mem_append_right _ (List.mem_append_left _ h))))))))))) rfl rfl rfl (by decide +kernel) ⟨Nat.le_of_ble_eq_true rfl, Nat.le_of_ble_eq_true rfl⟩) ⟨fun a U g mk q => by obtain ⟨q0, q1, qP, qK, qD⟩ := q; exact ⟨q0, q1, qP, va_K.moved (u := U) (U := U.calling g mk a) (Vm.Alike.refl U.vm) qK, qD⟩, va_recv hK hPc (ci := 0) (q0 := 0) rfl rfl, fun U hU hW => ⟨rfl, by rw [hU], by rw [hU]; exact hPc, va_K.moved hW.alike hK, hDc.weaken (fun _ _ _ _ => trivial)⟩⟩ rfl rfl hl.1 rfl (lv_room (Nat.le_of_ble_eq_true rfl)) dX0_gather_49 ⟨Nat.le_of_ble_eq_true rfl, Nat.le_of_ble_eq_true rfl⟩) hS (fun q _ h => hFc q h) hFc (fun u t H1 locs ht hvm hw hB hz1 hk1 hS => ?_)
    obtain ⟨x_319, x_320, f_321, f_322, f_323, hx_319, k_324, hP1, hD1⟩ := hB
    rw [ht] at hP1
    obtain ⟨hP, hD⟩ := va_join (wr := [(h5, .inl (cI, 81, .inl f_4)), (h6, .inl (cI, 9, .inl f_6)), (h7, .inr (7, [.ref h8, .ref h9, .ref h10, .ref h11, .ref h12, .ref h13, .int a4, .int a5, .int a6, .int a7, .int a8, .int a9, .int a10, .int a11])), (h8, .inl (cI, 9, .inl g6)), (h9, .inl (cI, 9, .inl g7))]) (w1 := [(h0, .inr (0, [.ref h1, .ref h2, .ref h3, .ref h4, .ref h5, .ref h6, .int x_319, .int a1, .int a5, .int x_320])), (h1, .inl (cI, 2520, .inl f_321)), (h2, .inl (cI, 2520, .inl f_322)), (h4, .inl (cI, 4096, .inl f_323))]) hP hD [4, 0, 1, 2] [3, 5, 6, 7, 8] rfl rfl (by decide) (by decide) hk1 hFc hP1 hD1
    generalize H1 = H at hP hS ⊢
    replace hP : va_P (dC, dI) vwCl [(h5, .inl (cI, 81, .inl f_4)), (h6, .inl (cI, 9, .inl f_6)), (h7, .inr (7, [.ref h8, .ref h9, .ref h10, .ref h11, .ref h12, .ref h13, .int a4, .int a5, .int a6, .int a7, .int a8, .int a9, .int a10, .int a11])), (h8, .inl (cI, 9, .inl g6)), (h9, .inl (cI, 9, .inl g7)), (h0, .inr (0, [.ref h1, .ref h2, .ref h3, .ref h4, .ref h5, .ref h6, .int x_319, .int a1, .int a5, .int x_320])), (h1, .inl (cI, 2520, .inl f_321)), (h2, .inl (cI, 2520, .inl f_322)), (h4, .inl (cI, 4096, .inl f_323))] H := hP
    replace hD : va_D A [(h5, .inl (cI, 81, .inl f_4)), (h6, .inl (cI, 9, .inl f_6)), (h7, .inr (7, [.ref h8, .ref h9, .ref h10, .ref h11, .ref h12, .ref h13, .int a4, .int a5, .int a6, .int a7, .int a8, .int a9, .int a10, .int a11])), (h8, .inl (cI, 9, .inl g6)), (h9, .inl (cI, 9, .inl g7)), (h0, .inr (0, [.ref h1, .ref h2, .ref h3, .ref h4, .ref h5, .ref h6, .int x_319, .int a1, .int a5, .int x_320])), (h1, .inl (cI, 2520, .inl f_321)), (h2, .inl (cI, 2520, .inl f_322)), (h4, .inl (cI, 4096, .inl f_323))] := hD
    refine lv_iconst (v := 0) hx hb dX0_gather_52 (by decide) ?_
    refine lv_istore_n (lv' := [(2, .int 0), (0, .ref h0), (1, .ref h7)]) hx hb dX0_gather_53 rfl hl (by decide) rfl (fun ls hl => ?_)
    refine lv_iload_n hx hb dX0_gather_54 rfl (lv_at hl 0 rfl) ?_
    refine lv_bipush (v := 9) hx hb dX0_gather_55 (by decide) ?_
    refine lv_icmp_ge (tgt := 107) hx hb dX0_gather_57 (by decide) (fun cz => absurd cz (by decide)) (fun _ => ?_)
    refine lv_aload_n hx hb dX0_gather_60 rfl (lv_at hl 1 rfl) ?_
    refine va_get (D := (dC, dI)) (ci := 0) (v := .int a5) (C := RX0) (T := TX0) (N := 10) hx hb hts hinX0 hown hK hP 5 rfl rfl 8 (by decide) (hts (.fieldLink RX0 37 "MayRings$Families" "size" "I") (List.mem_of_getElem? (i := 8) rfl)) (fun _ h9 => h9) rfl dX0_gather_61 ?_
    refine lv_if_le (tgt := 107) hx hb dX0_gather_64 (by decide) (fun c_326 => ?_) (fun c_326 => ?_)
    · skip
      have hP9 := hP.sub (ws' := [(h0, .inr (0, [.ref h1, .ref h2, .ref h3, .ref h4, .ref h5, .ref h6, .int x_319, .int a1, .int a5, .int x_320])), (h1, .inl (cI, 2520, .inl f_321)), (h2, .inl (cI, 2520, .inl f_322)), (h4, .inl (cI, 4096, .inl f_323)), (h5, .inl (cI, 81, .inl f_4)), (h6, .inl (cI, 9, .inl f_6)), (h7, .inr (7, [.ref h8, .ref h9, .ref h10, .ref h11, .ref h12, .ref h13, .int a4, .int a5, .int a6, .int a7, .int a8, .int a9, .int a10, .int a11])), (h8, .inl (cI, 9, .inl g6)), (h9, .inl (cI, 9, .inl g7))]) [5, 6, 7, 8, 0, 1, 2, 3, 4] rfl
      have hD9 := hD.sub (ws' := [(h0, .inr (0, [.ref h1, .ref h2, .ref h3, .ref h4, .ref h5, .ref h6, .int x_319, .int a1, .int a5, .int x_320])), (h1, .inl (cI, 2520, .inl f_321)), (h2, .inl (cI, 2520, .inl f_322)), (h4, .inl (cI, 4096, .inl f_323)), (h5, .inl (cI, 81, .inl f_4)), (h6, .inl (cI, 9, .inl f_6)), (h7, .inr (7, [.ref h8, .ref h9, .ref h10, .ref h11, .ref h12, .ref h13, .int a4, .int a5, .int a6, .int a7, .int a8, .int a9, .int a10, .int a11])), (h8, .inl (cI, 9, .inl g6)), (h9, .inl (cI, 9, .inl g7))]) [5, 6, 7, 8, 0, 1, 2, 3, 4] (by decide) rfl
      exact W.vret hx hb hr (fun t ht hW => ⟨⟨(), rfl, trivial, ⟨x_319, x_320, f_321, f_322, f_323, f_4, f_6, (rg_mono hx_319 (by decide) (by decide)), k_324, by rw [ht]; exact hP9, hD9⟩⟩, hS.F ht⟩) hS.2.2 dX0_gather_107
    · skip
      exfalso; have ha := h_317; have hb_ := (rg_k (x := 0) (c := 0) (by decide)); simp only [rg, fa_lt, fa_le, fa_eq, (by decide : (0 : Int32).toInt = 0)] at ha hb_ c_326; omega
def v_s_X0_leaderOf : List Cond := Cond.code yX0_leaderOf cX0_leaderOf 3 (some .int) :: ([Cond.fieldLink RX0 30 "MayRings$Families" "count" "I", Cond.fieldLink RX0 15 "MayRings$Families" "orders" "[I", Cond.methodLink RX0 118 yX0_mayLead, Cond.instanceMethod yX0_mayLead, Cond.selects RX0 yX0_mayLead yX0_mayLead, Cond.initialized RX0, Cond.methodLink RX0 122 yX0_canLead, Cond.instanceMethod yX0_canLead, Cond.selects RX0 yX0_canLead yX0_canLead] ++ (wsX00 ++ (v_s_X0_mayLead ++ (v_s_X0_canLead ++ ([])))))
theorem k_s_X0_leaderOf : GoodIn lw_tbl v_s_X0_leaderOf := gd_c (List.mem_of_getElem? (i := 1066) (by decide +kernel)) rfl (goodIn_app (gd_c (List.mem_of_getElem? (i := 506) (by decide +kernel)) rfl (gd_c (List.mem_of_getElem? (i := 501) (by decide +kernel)) rfl (gd_c (List.mem_of_getElem? (i := 1067) (by decide +kernel)) rfl (gd_c (List.mem_of_getElem? (i := 1069) (by decide +kernel)) rfl (gd_c (List.mem_of_getElem? (i := 59) (by decide +kernel)) rfl (gd_c (List.mem_of_getElem? (i := 143) (by decide +kernel)) rfl (gd_c (List.mem_of_getElem? (i := 1071) (by decide +kernel)) rfl (gd_c (List.mem_of_getElem? (i := 1073) (by decide +kernel)) rfl (gd_c (List.mem_of_getElem? (i := 60) (by decide +kernel)) rfl (gd_nil)))))))))) (goodIn_app kfX0 (goodIn_app k_s_X0_mayLead (goodIn_app k_s_X0_canLead (gd_nil)))))
set_option maxHeartbeats 2000000 in
set_option maxRecDepth 100000 in
theorem c_s_X0_leaderOf (l : Launch) (dC : Nat → ClassId) (dI : Nat → Nat → Nat) (cB cI cJ cZ cP : ClassId) (h0 : Nat) (h1 : Nat) (g0 : Nat → Int32) (h2 : Nat) (g1 : Nat → Int32) (h3 : Nat) (g2 : Nat → Int32) (h4 : Nat) (h5 : Nat) (h6 : Nat) (g5 : Nat → Int32) (a0 : Int32) (ha0 : rg (0) (2520) a0) (a1 : Int32) (ha1 : rg (0) (2520) a1) (a2 : Int32) (ha2 : rg (0) (9) a2) (a3 : Int32) (p0 : Int32) (sz : Nat) : Met l yX0_leaderOf v_s_X0_leaderOf ({ frames := 3, cells := 0, slots := 0, locals := 66 }) (va_Pc [.ref h0, .int p0] (fun U => U.heap.size = sz ∧ va_P (dC, dI) vwCl [(h0, .inr (0, [.ref h1, .ref h2, .ref h3, .ref h4, .ref h5, .ref h6, .int a0, .int a1, .int a2, .int a3])), (h1, .inl (cI, 2520, .inl g0)), (h2, .inl (cI, 2520, .inl g1)), (h3, .inl (cI, 2520, .inl g2)), (h6, .inl (cI, 9, .inl g5))] U.heap ∧ va_K (dC, dI) vwCl (ty5 cB cI cJ cZ cP) U ∧ va_D (fun _ => True) [(h0, .inr (0, [.ref h1, .ref h2, .ref h3, .ref h4, .ref h5, .ref h6, .int a0, .int a1, .int a2, .int a3])), (h1, .inl (cI, 2520, .inl g0)), (h2, .inl (cI, 2520, .inl g1)), (h3, .inl (cI, 2520, .inl g2)), (h6, .inl (cI, 9, .inl g5))])) (va_Qi (fun (r : Int32) (u9 : Unit) => rg (-1) (2519) r) (fun u9 t => ∃ (z0 : Int32) (z1 : Nat → Int32), rg (0) (2520) z0 ∧ va_P (dC, dI) vwCl [(h0, .inr (0, [.ref h1, .ref h2, .ref h3, .ref h4, .ref h5, .ref h6, .int a0, .int z0, .int a2, .int a3])), (h1, .inl (cI, 2520, .inl g0)), (h2, .inl (cI, 2520, .inl g1)), (h3, .inl (cI, 2520, .inl z1)), (h6, .inl (cI, 9, .inl g5))] t.heap ∧ va_D (va_A [(h0, .inr (0, [.ref h1, .ref h2, .ref h3, .ref h4, .ref h5, .ref h6, .int a0, .int a1, .int a2, .int a3])), (h1, .inl (cI, 2520, .inl g0)), (h2, .inl (cI, 2520, .inl g1)), (h3, .inl (cI, 2520, .inl g2)), (h6, .inl (cI, 9, .inl g5))] sz) [(h0, .inr (0, [.ref h1, .ref h2, .ref h3, .ref h4, .ref h5, .ref h6, .int a0, .int z0, .int a2, .int a3])), (h1, .inl (cI, 2520, .inl g0)), (h2, .inl (cI, 2520, .inl g1)), (h3, .inl (cI, 2520, .inl z1)), (h6, .inl (cI, 9, .inl g5))]) (va_A [(h0, .inr (0, [.ref h1, .ref h2, .ref h3, .ref h4, .ref h5, .ref h6, .int a0, .int a1, .int a2, .int a3])), (h1, .inl (cI, 2520, .inl g0)), (h2, .inl (cI, 2520, .inl g1)), (h3, .inl (cI, 2520, .inl g2)), (h6, .inl (cI, 9, .inl g5))] sz)) 0 0 (va_A [(h0, .inr (0, [.ref h1, .ref h2, .ref h3, .ref h4, .ref h5, .ref h6, .int a0, .int a1, .int a2, .int a3])), (h1, .inl (cI, 2520, .inl g0)), (h2, .inl (cI, 2520, .inl g1)), (h3, .inl (cI, 2520, .inl g2)), (h6, .inl (cI, 9, .inl g5))] sz) := by
  refine Met.ofW (cc := cX0_leaderOf) (maxL := 3) (ret := (some .int)) (by decide) rfl ?_
  intro p e s m args below meth c s₁ B hml hv
  obtain ⟨rfl, hsz, hP, hK, hD0⟩ := hv
  have hx := B.exec
  have hb := B.bytes
  have hr := B.returns
  have hts := atoms_spec (ws := v_s_X0_leaderOf) B.pre
  have hown : s.vm.findClass RX0 = some m.cls := findClass_of_methodNamed B.named
  have hlocks := B.notSynchronized
  have hinX0 : ∀ w ∈ wsX00, w ∈ v_s_X0_leaderOf := fun _ h => List.mem_cons_of_mem _ (List.mem_append_right _ (List.mem_append_left _ h))
  subst hsz
  have hD := hD0.self (sz := s.heap.size)
  generalize hAe : va_A [(h0, .inr (0, [.ref h1, .ref h2, .ref h3, .ref h4, .ref h5, .ref h6, .int a0, .int a1, .int a2, .int a3])), (h1, .inl (cI, 2520, .inl g0)), (h2, .inl (cI, 2520, .inl g1)), (h3, .inl (cI, 2520, .inl g2)), (h6, .inl (cI, 9, .inl g5))] s.heap.size = A at hD ⊢
  have hA : ∀ q : Nat, s.heap.size ≤ q → A q := fun q h => by rw [← hAe]; exact Or.inr h
  have hP : va_P (dC, dI) vwCl [(h0, .inr (0, [.ref h1, .ref h2, .ref h3, .ref h4, .ref h5, .ref h6, .int a0, .int a1, .int a2, .int a3])), (h1, .inl (cI, 2520, .inl g0)), (h2, .inl (cI, 2520, .inl g1)), (h3, .inl (cI, 2520, .inl g2)), (h6, .inl (cI, 9, .inl g5))] s.heap := hP
  have hl := lv_entry ([.ref h0, .int p0]) (n := 3) (Nat.le_of_ble_eq_true rfl)
  rw [lg_entry_eq]
  generalize (lg_sl ([.ref h0, .int p0]) ++ List.replicate (3 - (lg_sl ([.ref h0, .int p0])).length) Slot.unset).toArray = ls at hl ⊢
  have hl : lv_has ls 3 [(0, .ref h0), (1, .int p0)] := hl
  refine W_gen (A := A) hP (fun H locs hP hS => ?_)
  refine lv_iconst (v := 0) hx hb dX0_leaderOf_0 (by decide) ?_
  refine lv_istore_n (lv' := [(2, .int 0), (0, .ref h0), (1, .int p0)]) hx hb dX0_leaderOf_1 rfl hl (by decide) rfl (fun ls hl => ?_)
  refine W_loopM (σ := Int32 × (Nat → Int32) × Int32) (fun u H locs ls => va_P (dC, dI) vwCl [(h0, .inr (0, [.ref h1, .ref h2, .ref h3, .ref h4, .ref h5, .ref h6, .int a0, .int u.2.2, .int a2, .int a3])), (h1, .inl (cI, 2520, .inl g0)), (h2, .inl (cI, 2520, .inl g1)), (h3, .inl (cI, 2520, .inl u.2.1)), (h6, .inl (cI, 9, .inl g5))] H ∧ va_D A [(h0, .inr (0, [.ref h1, .ref h2, .ref h3, .ref h4, .ref h5, .ref h6, .int a0, .int u.2.2, .int a2, .int a3])), (h1, .inl (cI, 2520, .inl g0)), (h2, .inl (cI, 2520, .inl g1)), (h3, .inl (cI, 2520, .inl u.2.1)), (h6, .inl (cI, 9, .inl g5))] ∧ va_S A s.heap H locs ∧ lv_has ls 3 [(2, .int u.1), (0, .ref h0), (1, .int p0)] ∧ rg (0) (2520) u.1 ∧ rg (0) (2520) u.2.2) (fun u => ((2520) - u.1.toInt).toNat) 2 [] ?_ (0, g2, a1) H locs ls ⟨hP, hD, hS, hl, (rg_mono (rg_k (x := 0) (c := 0) (by decide)) (by decide) (by decide)), (rg_mono ha1 (by decide) (by decide))⟩
  rintro ⟨x_775, f_776, x_777⟩ H locs ls ⟨hP, hD, hS, hl, hx_775, hx_777⟩ ih_795
  replace hP : va_P (dC, dI) vwCl [(h0, .inr (0, [.ref h1, .ref h2, .ref h3, .ref h4, .ref h5, .ref h6, .int a0, .int x_777, .int a2, .int a3])), (h1, .inl (cI, 2520, .inl g0)), (h2, .inl (cI, 2520, .inl g1)), (h3, .inl (cI, 2520, .inl f_776)), (h6, .inl (cI, 9, .inl g5))] H := hP
  replace hD : va_D A [(h0, .inr (0, [.ref h1, .ref h2, .ref h3, .ref h4, .ref h5, .ref h6, .int a0, .int x_777, .int a2, .int a3])), (h1, .inl (cI, 2520, .inl g0)), (h2, .inl (cI, 2520, .inl g1)), (h3, .inl (cI, 2520, .inl f_776)), (h6, .inl (cI, 9, .inl g5))] := hD
  replace hl : lv_has ls 3 [(2, .int x_775), (0, .ref h0), (1, .int p0)] := hl
  replace hx_775 : rg (0) (2520) x_775 := hx_775
  replace hx_777 : rg (0) (2520) x_777 := hx_777
  refine lv_iload_n hx hb dX0_leaderOf_2 rfl (lv_at hl 0 rfl) ?_
  refine lv_aload_n hx hb dX0_leaderOf_3 rfl (lv_at hl 1 rfl) ?_
  refine va_get (D := (dC, dI)) (ci := 0) (v := .int a0) (C := RX0) (T := TX0) (N := 10) hx hb hts hinX0 hown hK hP 0 rfl rfl 6 (by decide) (hts (.fieldLink RX0 30 "MayRings$Families" "count" "I") (List.mem_of_getElem? (i := 1) rfl)) (fun _ h9 => h9) rfl dX0_leaderOf_4 ?_
  refine lv_icmp_ge (tgt := 40) hx hb dX0_leaderOf_7 (by decide) (fun c_796 => ?_) (fun c_796 => ?_)
  · skip
    refine lv_iconst (v := (-1)) hx hb dX0_leaderOf_40 (by decide) ?_
    have hP9 := hP.sub (ws' := [(h0, .inr (0, [.ref h1, .ref h2, .ref h3, .ref h4, .ref h5, .ref h6, .int a0, .int x_777, .int a2, .int a3])), (h1, .inl (cI, 2520, .inl g0)), (h2, .inl (cI, 2520, .inl g1)), (h3, .inl (cI, 2520, .inl f_776)), (h6, .inl (cI, 9, .inl g5))]) [0, 1, 2, 3, 4] rfl
    have hD9 := hD.sub (ws' := [(h0, .inr (0, [.ref h1, .ref h2, .ref h3, .ref h4, .ref h5, .ref h6, .int a0, .int x_777, .int a2, .int a3])), (h1, .inl (cI, 2520, .inl g0)), (h2, .inl (cI, 2520, .inl g1)), (h3, .inl (cI, 2520, .inl f_776)), (h6, .inl (cI, 9, .inl g5))]) [0, 1, 2, 3, 4] (by decide) rfl
    exact W.iret (v := (-1)) hx hb hr (fun t ht hW => ⟨⟨(-1), (), rfl, (rg_mono (rg_k (x := (-1)) (c := -1) (by decide)) (by decide) (by decide)), ⟨x_777, f_776, (rg_mono hx_777 (by decide) (by decide)), by rw [ht]; exact hP9, hD9⟩⟩, hS.F ht⟩) hS.2.2 dX0_leaderOf_41
  · skip
    have h_797 : rg (0) (2519) x_775 := by have ha := hx_775; have hb_ := ha0; simp only [rg, fa_lt, fa_le, fa_eq] at ha hb_ c_796; simp only [rg]; omega
    have h_798 : rg (1) (2520) a0 := by have ha := h_797; have hb_ := ha0; have hc_ := c_796; simp only [rg, fa_lt, fa_le, fa_eq] at ha hb_ hc_; simp only [rg]; omega
    have h_799 : rg (1) (2520) a0 := by have ha := hx_775; have hb_ := ha0; simp only [rg, fa_lt, fa_le, fa_eq] at ha hb_ c_796; simp only [rg]; omega
    refine lv_aload_n hx hb dX0_leaderOf_10 rfl (lv_at hl 1 rfl) ?_
    refine lv_aload_n hx hb dX0_leaderOf_11 rfl (lv_at hl 1 rfl) ?_
    refine va_get (D := (dC, dI)) (ci := 0) (v := .ref h2) (C := RX0) (T := TX0) (N := 10) hx hb hts hinX0 hown hK hP 0 rfl rfl 1 (by decide) (hts (.fieldLink RX0 15 "MayRings$Families" "orders" "[I") (List.mem_of_getElem? (i := 2) rfl)) (fun _ h9 => h9) rfl dX0_leaderOf_12 ?_
    refine lv_iload_n hx hb dX0_leaderOf_15 rfl (lv_at hl 0 rfl) ?_
    refine va_iald hx hb hK hP 2 1 rfl rfl (rg_in (n := 2520) (rg_mono h_797 (by decide) (by decide))) dX0_leaderOf_16 ?_
    refine lv_topi (fun x_800 ex_800 => ?_)
    have hPc := hP.sub (ws' := [(h0, .inr (0, [.ref h1, .ref h2, .ref h3, .ref h4, .ref h5, .ref h6, .int a0, .int x_777, .int a2, .int a3])), (h6, .inl (cI, 9, .inl g5))]) [0, 4] rfl
    have hDc := hD.sub (ws' := [(h0, .inr (0, [.ref h1, .ref h2, .ref h3, .ref h4, .ref h5, .ref h6, .int a0, .int x_777, .int a2, .int a3])), (h6, .inl (cI, 9, .inl g5))]) [0, 4] (by decide) rfl
    have hFc := va_free (wc := [(h0, .inr (0, [.ref h1, .ref h2, .ref h3, .ref h4, .ref h5, .ref h6, .int a0, .int x_777, .int a2, .int a3])), (h6, .inl (cI, 9, .inl g5))]) hD hS hA [0, 4] rfl
    refine va_calli (va_runV (As := [.int x_800]) (rest := []) ⟨hx, hb, hml, hown, hts⟩ (c_s_X0_mayLead l dC dI cB cI cJ cZ cP h0 h1 h2 h3 h4 h5 h6 g5 a0 x_777 a2 (rg_mono ha2 (by decide) (by decide)) a3 x_800 H.size) (cwV 1 hts (gd_V (List.mem_of_getElem? (i := 3) rfl) (List.mem_of_getElem? (i := 4) rfl) (List.mem_of_getElem? (i := 5) rfl) (List.mem_of_getElem? (i := 6) rfl) (gd_mono k_s_X0_mayLead (fun _ h => List.mem_cons_of_mem _ (List.mem_append_right _ (List.mem_append_right _ (List.mem_append_left _ h)))))) rfl rfl rfl (by decide +kernel) ⟨Nat.le_of_ble_eq_true rfl, Nat.le_of_ble_eq_true rfl⟩) ⟨fun a U g mk q => by obtain ⟨q0, q1, qP, qK, qD⟩ := q; exact ⟨q0, q1, qP, va_K.moved (u := U) (U := U.calling g mk a) (Vm.Alike.refl U.vm) qK, qD⟩, va_recv hK hPc (ci := 0) (q0 := 0) rfl rfl, fun U hU hW => ⟨rfl, by rw [hU], by rw [hU]; exact hPc, va_K.moved hW.alike hK, hDc.weaken (fun _ _ _ _ => trivial)⟩⟩ rfl rfl hl.1 rfl (lv_room (Nat.le_of_ble_eq_true rfl)) dX0_leaderOf_17 ⟨Nat.le_of_ble_eq_true rfl, Nat.le_of_ble_eq_true rfl⟩) hS (fun q _ h => hFc q h) hFc (fun r_801 u t H1 locs ht hvm hw hB hz1 hk1 hS => ?_)
    obtain ⟨hP1, hD1⟩ := hB
    rw [ht] at hP1
    obtain ⟨hP, hD⟩ := va_join (wr := [(h1, .inl (cI, 2520, .inl g0)), (h2, .inl (cI, 2520, .inl g1)), (h3, .inl (cI, 2520, .inl f_776))]) (w1 := [(h0, .inr (0, [.ref h1, .ref h2, .ref h3, .ref h4, .ref h5, .ref h6, .int a0, .int x_777, .int a2, .int a3])), (h6, .inl (cI, 9, .inl g5))]) hP hD [0, 4] [1, 2, 3] rfl rfl (by decide) (by decide) hk1 hFc hP1 hD1
    generalize H1 = H at hP hS ⊢
    replace hP : va_P (dC, dI) vwCl [(h1, .inl (cI, 2520, .inl g0)), (h2, .inl (cI, 2520, .inl g1)), (h3, .inl (cI, 2520, .inl f_776)), (h0, .inr (0, [.ref h1, .ref h2, .ref h3, .ref h4, .ref h5, .ref h6, .int a0, .int x_777, .int a2, .int a3])), (h6, .inl (cI, 9, .inl g5))] H := hP
    replace hD : va_D A [(h1, .inl (cI, 2520, .inl g0)), (h2, .inl (cI, 2520, .inl g1)), (h3, .inl (cI, 2520, .inl f_776)), (h0, .inr (0, [.ref h1, .ref h2, .ref h3, .ref h4, .ref h5, .ref h6, .int a0, .int x_777, .int a2, .int a3])), (h6, .inl (cI, 9, .inl g5))] := hD
    have hr_801 : rg (0) (1) r_801 := hw
    refine lv_if_eq (tgt := 34) hx hb dX0_leaderOf_20 (by decide) (fun c_802 => ?_) (fun c_802 => ?_)
    · skip
      have h_803 : rg (0) (0) r_801 := by have ha := hr_801; have hb_ := (rg_k (x := 0) (c := 0) (by decide)); simp only [rg, fa_lt, fa_le, fa_eq, (by decide : (0 : Int32).toInt = 0)] at ha hb_ c_802; simp only [rg]; omega
      obtain ⟨x_804, ex_804⟩ : ∃ y : Int32, y = x_775 + Int32.ofInt (1) := ⟨_, rfl⟩
      have hx_804 : rg (1) (2520) x_804 := by rw [ex_804]; exact rg_mono (rg_add h_797 (rg_k (x := Int32.ofInt (1)) (c := 1) (by decide)) (by decide) (by decide)) (by decide) (by decide)
      have qx_804 : x_804.toInt = x_775.toInt + (1) := by rw [ex_804]; exact rg_addE h_797 (rg_k (x := Int32.ofInt (1)) (c := 1) (by decide)) (by decide) (by decide) (by decide)
      refine lv_iinc (v := x_804) (lv' := [(2, .int x_804), (0, .ref h0), (1, .int p0)]) hx hb dX0_leaderOf_34 hl (k := 0) rfl (ex_804.symm) (by decide) rfl (fun ls hl => ?_)
      clear ex_804
      refine lv_goto (tgt := 2) hx hb dX0_leaderOf_37 (by decide) ?_
      exact ih_795 (x_804, f_776, x_777) H locs ls ⟨hP.sub (ws' := [(h0, .inr (0, [.ref h1, .ref h2, .ref h3, .ref h4, .ref h5, .ref h6, .int a0, .int x_777, .int a2, .int a3])), (h1, .inl (cI, 2520, .inl g0)), (h2, .inl (cI, 2520, .inl g1)), (h3, .inl (cI, 2520, .inl f_776)), (h6, .inl (cI, 9, .inl g5))]) [3, 0, 1, 2, 4] rfl, hD.sub (ws' := [(h0, .inr (0, [.ref h1, .ref h2, .ref h3, .ref h4, .ref h5, .ref h6, .int a0, .int x_777, .int a2, .int a3])), (h1, .inl (cI, 2520, .inl g0)), (h2, .inl (cI, 2520, .inl g1)), (h3, .inl (cI, 2520, .inl f_776)), (h6, .inl (cI, 9, .inl g5))]) [3, 0, 1, 2, 4] (by decide) rfl, hS, lv_sub hl [0, 1, 2] rfl, (rg_mono hx_804 (by decide) (by decide)), (rg_mono hx_777 (by decide) (by decide))⟩ (by show ((2520) - x_804.toInt).toNat < ((2520) - x_775.toInt).toNat; have ha := h_797; simp only [rg] at ha; omega)
    · skip
      have h_805 : rg (1) (1) r_801 := by have ha := hr_801; have hb_ := (rg_k (x := 0) (c := 0) (by decide)); simp only [rg, fa_lt, fa_le, fa_eq, (by decide : (0 : Int32).toInt = 0)] at ha hb_ c_802; simp only [rg]; omega
      refine lv_aload_n hx hb dX0_leaderOf_23 rfl (lv_at hl 1 rfl) ?_
      refine lv_iload_n hx hb dX0_leaderOf_24 rfl (lv_at hl 0 rfl) ?_
      refine lv_iload_n hx hb dX0_leaderOf_25 rfl (lv_at hl 2 rfl) ?_
      have hPc := hP.sub (ws' := [(h0, .inr (0, [.ref h1, .ref h2, .ref h3, .ref h4, .ref h5, .ref h6, .int a0, .int x_777, .int a2, .int a3])), (h1, .inl (cI, 2520, .inl g0)), (h3, .inl (cI, 2520, .inl f_776))]) [3, 0, 2] rfl
      have hDc := hD.sub (ws' := [(h0, .inr (0, [.ref h1, .ref h2, .ref h3, .ref h4, .ref h5, .ref h6, .int a0, .int x_777, .int a2, .int a3])), (h1, .inl (cI, 2520, .inl g0)), (h3, .inl (cI, 2520, .inl f_776))]) [3, 0, 2] (by decide) rfl
      have hFc := va_free (wc := [(h0, .inr (0, [.ref h1, .ref h2, .ref h3, .ref h4, .ref h5, .ref h6, .int a0, .int x_777, .int a2, .int a3])), (h1, .inl (cI, 2520, .inl g0)), (h3, .inl (cI, 2520, .inl f_776))]) hD hS hA [3, 0, 2] rfl
      refine va_calli (va_runV (As := [.int x_775, .int p0]) (rest := []) ⟨hx, hb, hml, hown, hts⟩ (c_s_X0_canLead l dC dI cB cI cJ cZ cP h0 h1 g0 h2 h3 f_776 h4 h5 h6 a0 (rg_mono h_799 (by decide) (by decide)) x_777 a2 a3 x_775 (rg_mono h_797 (by decide) (by decide)) p0 H.size) (cwV 2 hts (gd_V (List.mem_of_getElem? (i := 7) rfl) (List.mem_of_getElem? (i := 8) rfl) (List.mem_of_getElem? (i := 9) rfl) (List.mem_of_getElem? (i := 6) rfl) (gd_mono k_s_X0_canLead (fun _ h => List.mem_cons_of_mem _ (List.mem_append_right _ (List.mem_append_right _ (List.mem_append_right _ (List.mem_append_left _ h))))))) rfl rfl rfl (by decide +kernel) ⟨Nat.le_of_ble_eq_true rfl, Nat.le_of_ble_eq_true rfl⟩) ⟨fun a U g mk q => by obtain ⟨q0, q1, qP, qK, qD⟩ := q; exact ⟨q0, q1, qP, va_K.moved (u := U) (U := U.calling g mk a) (Vm.Alike.refl U.vm) qK, qD⟩, va_recv hK hPc (ci := 0) (q0 := 0) rfl rfl, fun U hU hW => ⟨rfl, by rw [hU], by rw [hU]; exact hPc, va_K.moved hW.alike hK, hDc.weaken (fun _ _ _ _ => trivial)⟩⟩ rfl rfl hl.1 rfl (lv_room (Nat.le_of_ble_eq_true rfl)) dX0_leaderOf_26 ⟨Nat.le_of_ble_eq_true rfl, Nat.le_of_ble_eq_true rfl⟩) hS (fun q _ h => hFc q h) hFc (fun r_806 u t H1 locs ht hvm hw hB hz1 hk1 hS => ?_)
      obtain ⟨x_807, f_808, hx_807, hP1, hD1⟩ := hB
      rw [ht] at hP1
      obtain ⟨hP, hD⟩ := va_join (wr := [(h2, .inl (cI, 2520, .inl g1)), (h6, .inl (cI, 9, .inl g5))]) (w1 := [(h0, .inr (0, [.ref h1, .ref h2, .ref h3, .ref h4, .ref h5, .ref h6, .int a0, .int x_807, .int a2, .int a3])), (h1, .inl (cI, 2520, .inl g0)), (h3, .inl (cI, 2520, .inl f_808))]) hP hD [3, 0, 2] [1, 4] rfl rfl (by decide) (by decide) hk1 hFc hP1 hD1
      generalize H1 = H at hP hS ⊢
      replace hP : va_P (dC, dI) vwCl [(h2, .inl (cI, 2520, .inl g1)), (h6, .inl (cI, 9, .inl g5)), (h0, .inr (0, [.ref h1, .ref h2, .ref h3, .ref h4, .ref h5, .ref h6, .int a0, .int x_807, .int a2, .int a3])), (h1, .inl (cI, 2520, .inl g0)), (h3, .inl (cI, 2520, .inl f_808))] H := hP
      replace hD : va_D A [(h2, .inl (cI, 2520, .inl g1)), (h6, .inl (cI, 9, .inl g5)), (h0, .inr (0, [.ref h1, .ref h2, .ref h3, .ref h4, .ref h5, .ref h6, .int a0, .int x_807, .int a2, .int a3])), (h1, .inl (cI, 2520, .inl g0)), (h3, .inl (cI, 2520, .inl f_808))] := hD
      have hr_806 : rg (0) (1) r_806 := hw
      refine lv_if_eq (tgt := 34) hx hb dX0_leaderOf_29 (by decide) (fun c_809 => ?_) (fun c_809 => ?_)
      · skip
        have h_810 : rg (0) (0) r_806 := by have ha := hr_806; have hb_ := (rg_k (x := 0) (c := 0) (by decide)); simp only [rg, fa_lt, fa_le, fa_eq, (by decide : (0 : Int32).toInt = 0)] at ha hb_ c_809; simp only [rg]; omega
        obtain ⟨x_811, ex_811⟩ : ∃ y : Int32, y = x_775 + Int32.ofInt (1) := ⟨_, rfl⟩
        have hx_811 : rg (1) (2520) x_811 := by rw [ex_811]; exact rg_mono (rg_add h_797 (rg_k (x := Int32.ofInt (1)) (c := 1) (by decide)) (by decide) (by decide)) (by decide) (by decide)
        have qx_811 : x_811.toInt = x_775.toInt + (1) := by rw [ex_811]; exact rg_addE h_797 (rg_k (x := Int32.ofInt (1)) (c := 1) (by decide)) (by decide) (by decide) (by decide)
        refine lv_iinc (v := x_811) (lv' := [(2, .int x_811), (0, .ref h0), (1, .int p0)]) hx hb dX0_leaderOf_34 hl (k := 0) rfl (ex_811.symm) (by decide) rfl (fun ls hl => ?_)
        clear ex_811
        refine lv_goto (tgt := 2) hx hb dX0_leaderOf_37 (by decide) ?_
        exact ih_795 (x_811, f_808, x_807) H locs ls ⟨hP.sub (ws' := [(h0, .inr (0, [.ref h1, .ref h2, .ref h3, .ref h4, .ref h5, .ref h6, .int a0, .int x_807, .int a2, .int a3])), (h1, .inl (cI, 2520, .inl g0)), (h2, .inl (cI, 2520, .inl g1)), (h3, .inl (cI, 2520, .inl f_808)), (h6, .inl (cI, 9, .inl g5))]) [2, 3, 0, 4, 1] rfl, hD.sub (ws' := [(h0, .inr (0, [.ref h1, .ref h2, .ref h3, .ref h4, .ref h5, .ref h6, .int a0, .int x_807, .int a2, .int a3])), (h1, .inl (cI, 2520, .inl g0)), (h2, .inl (cI, 2520, .inl g1)), (h3, .inl (cI, 2520, .inl f_808)), (h6, .inl (cI, 9, .inl g5))]) [2, 3, 0, 4, 1] (by decide) rfl, hS, lv_sub hl [0, 1, 2] rfl, (rg_mono hx_811 (by decide) (by decide)), (rg_mono hx_807 (by decide) (by decide))⟩ (by show ((2520) - x_811.toInt).toNat < ((2520) - x_775.toInt).toNat; have ha := h_797; simp only [rg] at ha; omega)
      · skip
        have h_812 : rg (1) (1) r_806 := by have ha := hr_806; have hb_ := (rg_k (x := 0) (c := 0) (by decide)); simp only [rg, fa_lt, fa_le, fa_eq, (by decide : (0 : Int32).toInt = 0)] at ha hb_ c_809; simp only [rg]; omega
        refine lv_iload_n hx hb dX0_leaderOf_32 rfl (lv_at hl 0 rfl) ?_
        have hP9 := hP.sub (ws' := [(h0, .inr (0, [.ref h1, .ref h2, .ref h3, .ref h4, .ref h5, .ref h6, .int a0, .int x_807, .int a2, .int a3])), (h1, .inl (cI, 2520, .inl g0)), (h2, .inl (cI, 2520, .inl g1)), (h3, .inl (cI, 2520, .inl f_808)), (h6, .inl (cI, 9, .inl g5))]) [2, 3, 0, 4, 1] rfl
        have hD9 := hD.sub (ws' := [(h0, .inr (0, [.ref h1, .ref h2, .ref h3, .ref h4, .ref h5, .ref h6, .int a0, .int x_807, .int a2, .int a3])), (h1, .inl (cI, 2520, .inl g0)), (h2, .inl (cI, 2520, .inl g1)), (h3, .inl (cI, 2520, .inl f_808)), (h6, .inl (cI, 9, .inl g5))]) [2, 3, 0, 4, 1] (by decide) rfl
        exact W.iret (v := x_775) hx hb hr (fun t ht hW => ⟨⟨x_775, (), rfl, (rg_mono h_797 (by decide) (by decide)), ⟨x_807, f_808, (rg_mono hx_807 (by decide) (by decide)), by rw [ht]; exact hP9, hD9⟩⟩, hS.F ht⟩) hS.2.2 dX0_leaderOf_33
def v_s_J6_bitCount_0f7a4 : List Cond := Cond.code yJ6_bitCount_0f7a4 cJ6_bitCount_0f7a4 1 (some .int) :: ([Cond.constant RJ6 265 (1431655765), Cond.constant RJ6 266 (858993459), Cond.constant RJ6 267 (252645135)] ++ ([]))
theorem k_s_J6_bitCount_0f7a4 : GoodIn lw_tbl v_s_J6_bitCount_0f7a4 := gd_c (List.mem_of_getElem? (i := 879) (by decide +kernel)) rfl (goodIn_app (gd_c (List.mem_of_getElem? (i := 880) (by decide +kernel)) rfl (gd_c (List.mem_of_getElem? (i := 881) (by decide +kernel)) rfl (gd_c (List.mem_of_getElem? (i := 882) (by decide +kernel)) rfl (gd_nil)))) (gd_nil))
set_option maxHeartbeats 2000000 in
set_option maxRecDepth 100000 in
theorem c_s_J6_bitCount_0f7a4 (l : Launch) (dC : Nat → ClassId) (dI : Nat → Nat → Nat) (cB cI cJ cZ cP : ClassId) (p0 : Int32) (sz : Nat) : Met l yJ6_bitCount_0f7a4 v_s_J6_bitCount_0f7a4 ({ frames := 0, cells := 0, slots := 0, locals := 0 }) (va_Pc [.int p0] (fun U => U.heap.size = sz ∧ va_P (dC, dI) vwCl [] U.heap ∧ va_K (dC, dI) vwCl (ty5 cB cI cJ cZ cP) U ∧ va_D (fun _ => True) [])) (va_Qi (fun (r : Int32) (u9 : Unit) => rg (0) (63) r) (fun u9 t => va_P (dC, dI) vwCl [] t.heap ∧ va_D (va_A [] sz) []) (va_A [] sz)) 0 0 (va_A [] sz) := by
  refine Met.ofW (cc := cJ6_bitCount_0f7a4) (maxL := 1) (ret := (some .int)) (by decide) rfl ?_
  intro p e s m args below meth c s₁ B hml hv
  obtain ⟨rfl, hsz, hP, hK, hD0⟩ := hv
  have hx := B.exec
  have hb := B.bytes
  have hr := B.returns
  have hts := atoms_spec (ws := v_s_J6_bitCount_0f7a4) B.pre
  have hown : s.vm.findClass RJ6 = some m.cls := findClass_of_methodNamed B.named
  have hlocks := B.notSynchronized
  subst hsz
  have hD := hD0.self (sz := s.heap.size)
  generalize hAe : va_A [] s.heap.size = A at hD ⊢
  have hA : ∀ q : Nat, s.heap.size ≤ q → A q := fun q h => by rw [← hAe]; exact Or.inr h
  have hP : va_P (dC, dI) vwCl [] s.heap := hP
  have hl := lv_entry ([.int p0]) (n := 1) (Nat.le_of_ble_eq_true rfl)
  rw [lg_entry_eq]
  generalize (lg_sl ([.int p0]) ++ List.replicate (1 - (lg_sl ([.int p0])).length) Slot.unset).toArray = ls at hl ⊢
  have hl : lv_has ls 1 [(0, .int p0)] := hl
  refine W_gen (A := A) hP (fun H locs hP hS => ?_)
  refine lv_iload_n hx hb dJ6_bitCount_0f7a4_0 rfl (lv_at hl 0 rfl) ?_
  refine lv_iload_n hx hb dJ6_bitCount_0f7a4_1 rfl (lv_at hl 0 rfl) ?_
  refine lv_iconst (v := 1) hx hb dJ6_bitCount_0f7a4_2 (by decide) ?_
  refine lv_iushr hx hb dJ6_bitCount_0f7a4_3 rfl ?_
  refine lv_topi (fun x_1 ex_1 => ?_)
  have hx_1 : rg (0) (2147483647) x_1 := by rw [ex_1]; exact rg_mono (rg_ushr 1 (by decide) (by decide)) (by decide) (by decide)
  refine lv_ldcw (v := 1431655765) hx hb hown (hts (.constant RJ6 265 (1431655765)) (List.mem_of_getElem? (i := 1) rfl)) dJ6_bitCount_0f7a4_4 ?_
  refine lv_iand hx hb dJ6_bitCount_0f7a4_7 ?_
  refine lv_topi (fun x_2 ex_2 => ?_)
  have hx_2 : rg (0) (1431655765) x_2 := by rw [ex_2]; exact rg_mono (rg_andr (b := 1431655765) (rg_mono (rg_k (x := 1431655765) (c := 1431655765) (by decide)) (by decide) (by decide))) (by decide) (by decide)
  have kx_2_0 : rg 1 2147483647 x_2 → rg 1 (2147483647) x_1 := fun hq => rg_andP hx_1 (ex_2 ▸ hq)
  refine lv_isub hx hb dJ6_bitCount_0f7a4_8 ?_
  refine lv_topi (fun x_3 ex_3 => ?_)
  refine lv_istore_n (lv' := [(0, .int x_3)]) hx hb dJ6_bitCount_0f7a4_9 rfl hl (by decide) rfl (fun ls hl => ?_)
  refine lv_iload_n hx hb dJ6_bitCount_0f7a4_10 rfl (lv_at hl 0 rfl) ?_
  refine lv_ldcw (v := 858993459) hx hb hown (hts (.constant RJ6 266 (858993459)) (List.mem_of_getElem? (i := 2) rfl)) dJ6_bitCount_0f7a4_11 ?_
  refine lv_iand hx hb dJ6_bitCount_0f7a4_14 ?_
  refine lv_topi (fun x_4 ex_4 => ?_)
  have hx_4 : rg (0) (858993459) x_4 := by rw [ex_4]; exact rg_mono (rg_andr (b := 858993459) (rg_mono (rg_k (x := 858993459) (c := 858993459) (by decide)) (by decide) (by decide))) (by decide) (by decide)
  refine lv_iload_n hx hb dJ6_bitCount_0f7a4_15 rfl (lv_at hl 0 rfl) ?_
  refine lv_iconst (v := 2) hx hb dJ6_bitCount_0f7a4_16 (by decide) ?_
  refine lv_iushr hx hb dJ6_bitCount_0f7a4_17 rfl ?_
  refine lv_topi (fun x_5 ex_5 => ?_)
  have hx_5 : rg (0) (1073741823) x_5 := by rw [ex_5]; exact rg_mono (rg_ushr 2 (by decide) (by decide)) (by decide) (by decide)
  refine lv_ldcw (v := 858993459) hx hb hown (hts (.constant RJ6 266 (858993459)) (List.mem_of_getElem? (i := 2) rfl)) dJ6_bitCount_0f7a4_18 ?_
  refine lv_iand hx hb dJ6_bitCount_0f7a4_21 ?_
  refine lv_topi (fun x_6 ex_6 => ?_)
  have hx_6 : rg (0) (858993459) x_6 := by rw [ex_6]; exact rg_mono (rg_andr (b := 858993459) (rg_mono (rg_k (x := 858993459) (c := 858993459) (by decide)) (by decide) (by decide))) (by decide) (by decide)
  have kx_6_0 : rg 1 2147483647 x_6 → rg 1 (1073741823) x_5 := fun hq => rg_andP hx_5 (ex_6 ▸ hq)
  refine lv_iadd hx hb dJ6_bitCount_0f7a4_22 ?_
  refine lv_topi (fun x_7 ex_7 => ?_)
  have hx_7 : rg (0) (1717986918) x_7 := by rw [ex_7]; exact rg_mono (rg_add hx_4 hx_6 (by decide) (by decide)) (by decide) (by decide)
  have qx_7 : x_7.toInt = x_4.toInt + x_6.toInt := by rw [ex_7]; exact rg_addQ hx_4 hx_6 (by decide) (by decide)
  refine lv_istore_n (lv' := [(0, .int x_7)]) hx hb dJ6_bitCount_0f7a4_23 rfl hl (by decide) rfl (fun ls hl => ?_)
  refine lv_iload_n hx hb dJ6_bitCount_0f7a4_24 rfl (lv_at hl 0 rfl) ?_
  refine lv_iload_n hx hb dJ6_bitCount_0f7a4_25 rfl (lv_at hl 0 rfl) ?_
  refine lv_iconst (v := 4) hx hb dJ6_bitCount_0f7a4_26 (by decide) ?_
  refine lv_iushr hx hb dJ6_bitCount_0f7a4_27 rfl ?_
  refine lv_topi (fun x_8 ex_8 => ?_)
  have hx_8 : rg (0) (268435455) x_8 := by rw [ex_8]; exact rg_mono (rg_ushr 4 (by decide) (by decide)) (by decide) (by decide)
  refine lv_iadd hx hb dJ6_bitCount_0f7a4_28 ?_
  refine lv_topi (fun x_9 ex_9 => ?_)
  have hx_9 : rg (0) (1986422373) x_9 := by rw [ex_9]; exact rg_mono (rg_add hx_7 hx_8 (by decide) (by decide)) (by decide) (by decide)
  have qx_9 : x_9.toInt = x_7.toInt + x_8.toInt := by rw [ex_9]; exact rg_addQ hx_7 hx_8 (by decide) (by decide)
  refine lv_ldcw (v := 252645135) hx hb hown (hts (.constant RJ6 267 (252645135)) (List.mem_of_getElem? (i := 3) rfl)) dJ6_bitCount_0f7a4_29 ?_
  refine lv_iand hx hb dJ6_bitCount_0f7a4_32 ?_
  refine lv_topi (fun x_10 ex_10 => ?_)
  have hx_10 : rg (0) (252645135) x_10 := by rw [ex_10]; exact rg_mono (rg_andr (b := 252645135) (rg_mono (rg_k (x := 252645135) (c := 252645135) (by decide)) (by decide) (by decide))) (by decide) (by decide)
  have kx_10_0 : rg 1 2147483647 x_10 → rg 1 (1986422373) x_9 := fun hq => rg_andP hx_9 (ex_10 ▸ hq)
  refine lv_istore_n (lv' := [(0, .int x_10)]) hx hb dJ6_bitCount_0f7a4_33 rfl hl (by decide) rfl (fun ls hl => ?_)
  refine lv_iload_n hx hb dJ6_bitCount_0f7a4_34 rfl (lv_at hl 0 rfl) ?_
  refine lv_iload_n hx hb dJ6_bitCount_0f7a4_35 rfl (lv_at hl 0 rfl) ?_
  refine lv_bipush (v := 8) hx hb dJ6_bitCount_0f7a4_36 (by decide) ?_
  refine lv_iushr hx hb dJ6_bitCount_0f7a4_38 rfl ?_
  refine lv_topi (fun x_11 ex_11 => ?_)
  have hx_11 : rg (0) (16777215) x_11 := by rw [ex_11]; exact rg_mono (rg_ushr 8 (by decide) (by decide)) (by decide) (by decide)
  refine lv_iadd hx hb dJ6_bitCount_0f7a4_39 ?_
  refine lv_topi (fun x_12 ex_12 => ?_)
  have hx_12 : rg (0) (269422350) x_12 := by rw [ex_12]; exact rg_mono (rg_add hx_10 hx_11 (by decide) (by decide)) (by decide) (by decide)
  have qx_12 : x_12.toInt = x_10.toInt + x_11.toInt := by rw [ex_12]; exact rg_addQ hx_10 hx_11 (by decide) (by decide)
  refine lv_istore_n (lv' := [(0, .int x_12)]) hx hb dJ6_bitCount_0f7a4_40 rfl hl (by decide) rfl (fun ls hl => ?_)
  refine lv_iload_n hx hb dJ6_bitCount_0f7a4_41 rfl (lv_at hl 0 rfl) ?_
  refine lv_iload_n hx hb dJ6_bitCount_0f7a4_42 rfl (lv_at hl 0 rfl) ?_
  refine lv_bipush (v := 16) hx hb dJ6_bitCount_0f7a4_43 (by decide) ?_
  refine lv_iushr hx hb dJ6_bitCount_0f7a4_45 rfl ?_
  refine lv_topi (fun x_13 ex_13 => ?_)
  have hx_13 : rg (0) (65535) x_13 := by rw [ex_13]; exact rg_mono (rg_ushr 16 (by decide) (by decide)) (by decide) (by decide)
  refine lv_iadd hx hb dJ6_bitCount_0f7a4_46 ?_
  refine lv_topi (fun x_14 ex_14 => ?_)
  have hx_14 : rg (0) (269487885) x_14 := by rw [ex_14]; exact rg_mono (rg_add hx_12 hx_13 (by decide) (by decide)) (by decide) (by decide)
  have qx_14 : x_14.toInt = x_12.toInt + x_13.toInt := by rw [ex_14]; exact rg_addQ hx_12 hx_13 (by decide) (by decide)
  refine lv_istore_n (lv' := [(0, .int x_14)]) hx hb dJ6_bitCount_0f7a4_47 rfl hl (by decide) rfl (fun ls hl => ?_)
  refine lv_iload_n hx hb dJ6_bitCount_0f7a4_48 rfl (lv_at hl 0 rfl) ?_
  refine lv_bipush (v := 63) hx hb dJ6_bitCount_0f7a4_49 (by decide) ?_
  refine lv_iand hx hb dJ6_bitCount_0f7a4_51 ?_
  refine lv_topi (fun x_15 ex_15 => ?_)
  have hx_15 : rg (0) (63) x_15 := by rw [ex_15]; exact rg_mono (rg_andr (b := 63) (rg_mono (rg_k (x := 63) (c := 63) (by decide)) (by decide) (by decide))) (by decide) (by decide)
  have kx_15_0 : rg 1 2147483647 x_15 → rg 1 (269487885) x_14 := fun hq => rg_andP hx_14 (ex_15 ▸ hq)
  have hP9 := hP.sub (ws' := []) [] rfl
  have hD9 := hD.sub (ws' := []) [] (by decide) rfl
  exact W.iret (v := x_15) hx hb hr (fun t ht hW => ⟨⟨x_15, (), rfl, (rg_mono hx_15 (by decide) (by decide)), ⟨by rw [ht]; exact hP9, hD9⟩⟩, hS.F ht⟩) hS.2.2 dJ6_bitCount_0f7a4_52
def v_s_X3_add : List Cond := Cond.code yX3_add cX3_add 2 none :: ([Cond.fieldLink RX3 15 "MayRings$Order" "size" "I", Cond.fieldLink RX3 9 "MayRings$Order" "houses" "[I"] ++ (wsX30 ++ ([])))
theorem k_s_X3_add : GoodIn lw_tbl v_s_X3_add := gd_c (List.mem_of_getElem? (i := 860) (by decide +kernel)) rfl (goodIn_app (gd_c (List.mem_of_getElem? (i := 363) (by decide +kernel)) rfl (gd_c (List.mem_of_getElem? (i := 360) (by decide +kernel)) rfl (gd_nil))) (goodIn_app kfX3 (gd_nil)))
set_option maxHeartbeats 2000000 in
set_option maxRecDepth 100000 in
theorem c_s_X3_add (l : Launch) (dC : Nat → ClassId) (dI : Nat → Nat → Nat) (cB cI cJ cZ cP : ClassId) (h0 : Nat) (h1 : Nat) (g0 : Nat → Int32) (hg0 : rgA (0) (8) g0) (a0 : Int32) (ha0 : rg (-1) (9) a0) (p0 : Int32) (hp0 : rg (0) (8) p0) (sz : Nat) : Met l yX3_add v_s_X3_add ({ frames := 0, cells := 0, slots := 0, locals := 0 }) (va_Pc [.ref h0, .int p0] (fun U => U.heap.size = sz ∧ va_P (dC, dI) vwCl [(h0, .inr (3, [.ref h1, .int a0])), (h1, .inl (cI, 9, .inl g0))] U.heap ∧ va_K (dC, dI) vwCl (ty5 cB cI cJ cZ cP) U ∧ va_D (fun _ => True) [(h0, .inr (3, [.ref h1, .int a0])), (h1, .inl (cI, 9, .inl g0))])) (va_Qv (fun _ : Unit => True) (fun _ t => ∃ (z0 : Int32) (z1 : Nat → Int32), rg (-1) (9) z0 ∧ rgA (0) (8) z1 ∧ va_P (dC, dI) vwCl [(h0, .inr (3, [.ref h1, .int z0])), (h1, .inl (cI, 9, .inl z1))] t.heap ∧ va_D (va_A [(h0, .inr (3, [.ref h1, .int a0])), (h1, .inl (cI, 9, .inl g0))] sz) [(h0, .inr (3, [.ref h1, .int z0])), (h1, .inl (cI, 9, .inl z1))]) (va_A [(h0, .inr (3, [.ref h1, .int a0])), (h1, .inl (cI, 9, .inl g0))] sz)) 0 0 (va_A [(h0, .inr (3, [.ref h1, .int a0])), (h1, .inl (cI, 9, .inl g0))] sz) := by
  refine Met.ofW (cc := cX3_add) (maxL := 2) (ret := none) (by decide) rfl ?_
  intro p e s m args below meth c s₁ B hml hv
  obtain ⟨rfl, hsz, hP, hK, hD0⟩ := hv
  have hx := B.exec
  have hb := B.bytes
  have hr := B.returns
  have hts := atoms_spec (ws := v_s_X3_add) B.pre
  have hown : s.vm.findClass RX3 = some m.cls := findClass_of_methodNamed B.named
  have hlocks := B.notSynchronized
  have hinX3 : ∀ w ∈ wsX30, w ∈ v_s_X3_add := fun _ h => List.mem_cons_of_mem _ (List.mem_append_right _ (List.mem_append_left _ h))
  subst hsz
  have hD := hD0.self (sz := s.heap.size)
  generalize hAe : va_A [(h0, .inr (3, [.ref h1, .int a0])), (h1, .inl (cI, 9, .inl g0))] s.heap.size = A at hD ⊢
  have hA : ∀ q : Nat, s.heap.size ≤ q → A q := fun q h => by rw [← hAe]; exact Or.inr h
  have hP : va_P (dC, dI) vwCl [(h0, .inr (3, [.ref h1, .int a0])), (h1, .inl (cI, 9, .inl g0))] s.heap := hP
  have hl := lv_entry ([.ref h0, .int p0]) (n := 2) (Nat.le_of_ble_eq_true rfl)
  rw [lg_entry_eq]
  generalize (lg_sl ([.ref h0, .int p0]) ++ List.replicate (2 - (lg_sl ([.ref h0, .int p0])).length) Slot.unset).toArray = ls at hl ⊢
  have hl : lv_has ls 2 [(0, .ref h0), (1, .int p0)] := hl
  refine W_gen (A := A) hP (fun H locs hP hS => ?_)
  refine lv_aload_n hx hb dX3_add_0 rfl (lv_at hl 0 rfl) ?_
  refine va_get (D := (dC, dI)) (ci := 3) (v := .int a0) (C := RX3) (T := TX3) (N := 2) hx hb hts hinX3 hown hK hP 0 rfl rfl 1 (by decide) (hts (.fieldLink RX3 15 "MayRings$Order" "size" "I") (List.mem_of_getElem? (i := 1) rfl)) (fun _ h9 => h9) rfl dX3_add_1 ?_
  refine lv_if_lt (tgt := 36) hx hb dX3_add_4 (by decide) (fun c_1 => ?_) (fun c_1 => ?_)
  · skip
    have h_2 : rg (-1) (-1) a0 := by have ha := ha0; have hb_ := (rg_k (x := 0) (c := 0) (by decide)); simp only [rg, fa_lt, fa_le, fa_eq, (by decide : (0 : Int32).toInt = 0)] at ha hb_ c_1; simp only [rg]; omega
    have hP9 := hP.sub (ws' := [(h0, .inr (3, [.ref h1, .int a0])), (h1, .inl (cI, 9, .inl g0))]) [0, 1] rfl
    have hD9 := hD.sub (ws' := [(h0, .inr (3, [.ref h1, .int a0])), (h1, .inl (cI, 9, .inl g0))]) [0, 1] (by decide) rfl
    exact W.vret hx hb hr (fun t ht hW => ⟨⟨(), rfl, trivial, ⟨a0, g0, (rg_mono h_2 (by decide) (by decide)), hg0, by rw [ht]; exact hP9, hD9⟩⟩, hS.F ht⟩) hS.2.2 dX3_add_36
  · skip
    have h_3 : rg (0) (9) a0 := by have ha := ha0; have hb_ := (rg_k (x := 0) (c := 0) (by decide)); simp only [rg, fa_lt, fa_le, fa_eq, (by decide : (0 : Int32).toInt = 0)] at ha hb_ c_1; simp only [rg]; omega
    refine lv_aload_n hx hb dX3_add_7 rfl (lv_at hl 0 rfl) ?_
    refine va_get (D := (dC, dI)) (ci := 3) (v := .int a0) (C := RX3) (T := TX3) (N := 2) hx hb hts hinX3 hown hK hP 0 rfl rfl 1 (by decide) (hts (.fieldLink RX3 15 "MayRings$Order" "size" "I") (List.mem_of_getElem? (i := 1) rfl)) (fun _ h9 => h9) rfl dX3_add_8 ?_
    refine lv_bipush (v := 9) hx hb dX3_add_11 (by decide) ?_
    refine lv_icmp_ge (tgt := 36) hx hb dX3_add_13 (by decide) (fun c_4 => ?_) (fun c_4 => ?_)
    · skip
      have h_5 : rg (9) (9) a0 := by have ha := h_3; have hb_ := (rg_k (x := 9) (c := 9) (by decide)); simp only [rg, fa_lt, fa_le, fa_eq, (by decide : (9 : Int32).toInt = 9)] at ha hb_ c_4; simp only [rg]; omega
      have hP9 := hP.sub (ws' := [(h0, .inr (3, [.ref h1, .int a0])), (h1, .inl (cI, 9, .inl g0))]) [0, 1] rfl
      have hD9 := hD.sub (ws' := [(h0, .inr (3, [.ref h1, .int a0])), (h1, .inl (cI, 9, .inl g0))]) [0, 1] (by decide) rfl
      exact W.vret hx hb hr (fun t ht hW => ⟨⟨(), rfl, trivial, ⟨a0, g0, (rg_mono h_5 (by decide) (by decide)), hg0, by rw [ht]; exact hP9, hD9⟩⟩, hS.F ht⟩) hS.2.2 dX3_add_36
    · skip
      have h_6 : rg (0) (8) a0 := by have ha := h_3; have hb_ := (rg_k (x := 9) (c := 9) (by decide)); simp only [rg, fa_lt, fa_le, fa_eq, (by decide : (9 : Int32).toInt = 9)] at ha hb_ c_4; simp only [rg]; omega
      refine lv_aload_n hx hb dX3_add_16 rfl (lv_at hl 0 rfl) ?_
      refine va_get (D := (dC, dI)) (ci := 3) (v := .ref h1) (C := RX3) (T := TX3) (N := 2) hx hb hts hinX3 hown hK hP 0 rfl rfl 0 (by decide) (hts (.fieldLink RX3 9 "MayRings$Order" "houses" "[I") (List.mem_of_getElem? (i := 2) rfl)) (fun _ h9 => h9) rfl dX3_add_17 ?_
      refine lv_aload_n hx hb dX3_add_20 rfl (lv_at hl 0 rfl) ?_
      refine va_get (D := (dC, dI)) (ci := 3) (v := .int a0) (C := RX3) (T := TX3) (N := 2) hx hb hts hinX3 hown hK hP 0 rfl rfl 1 (by decide) (hts (.fieldLink RX3 15 "MayRings$Order" "size" "I") (List.mem_of_getElem? (i := 1) rfl)) (fun _ h9 => h9) rfl dX3_add_21 ?_
      refine lv_iload_n hx hb dX3_add_24 rfl (lv_at hl 1 rfl) ?_
      refine va_iast hx hb hK hP hD hS 1 1 rfl rfl (rg_in (n := 9) (rg_mono h_6 (by decide) (by decide))) dX3_add_25 (fun H locs hP hD hS => ?_)
      obtain ⟨f_7, ef_7⟩ : ∃ f : Nat → Int32, f = upd g0 (a0 : Int32).toNatClampNeg p0 := ⟨_, rfl⟩
      rw [← ef_7] at hP hD
      have hf_7 : rgA (0) (8) f_7 := by rw [ef_7]; exact rgA_upd hg0 (rg_mono hp0 (by decide) (by decide))
      clear ef_7
      replace hP : va_P (dC, dI) vwCl [(h0, .inr (3, [.ref h1, .int a0])), (h1, .inl (cI, 9, .inl f_7))] H := hP
      replace hD : va_D A [(h0, .inr (3, [.ref h1, .int a0])), (h1, .inl (cI, 9, .inl f_7))] := hD
      refine lv_aload_n hx hb dX3_add_26 rfl (lv_at hl 0 rfl) ?_
      refine lv_dup hx hb dX3_add_27 rfl ?_
      refine va_get (D := (dC, dI)) (ci := 3) (v := .int a0) (C := RX3) (T := TX3) (N := 2) hx hb hts hinX3 hown hK hP 0 rfl rfl 1 (by decide) (hts (.fieldLink RX3 15 "MayRings$Order" "size" "I") (List.mem_of_getElem? (i := 1) rfl)) (fun _ h9 => h9) rfl dX3_add_28 ?_
      refine lv_iconst (v := 1) hx hb dX3_add_31 (by decide) ?_
      refine lv_iadd hx hb dX3_add_32 ?_
      refine lv_topi (fun x_8 ex_8 => ?_)
      have hx_8 : rg (1) (9) x_8 := by rw [ex_8]; exact rg_mono (rg_add h_6 (rg_k (x := 1) (c := 1) (by decide)) (by decide) (by decide)) (by decide) (by decide)
      have qx_8 : x_8.toInt = a0.toInt + (1) := by rw [ex_8]; exact rg_addE h_6 (rg_k (x := 1) (c := 1) (by decide)) (by decide) (by decide) trivial
      refine va_put (D := (dC, dI)) (ci := 3) (v := .int x_8) (ty := .int) (C := RX3) (T := TX3) (N := 2) hx hb hts hinX3 tyX3 tyX3_ok nmX3 hown hK hP hD hS 0 rfl rfl 1 (by decide) (hts (.fieldLink RX3 15 "MayRings$Order" "size" "I") (List.mem_of_getElem? (i := 1) rfl)) (fun _ h9 => h9) rfl (by decide +kernel) (rfl) (rfl) (Nat.le_of_ble_eq_true rfl) dX3_add_33 (fun H locs hP hD hS => ?_)
      replace hP : va_P (dC, dI) vwCl [(h0, .inr (3, [.ref h1, .int x_8])), (h1, .inl (cI, 9, .inl f_7))] H := hP
      replace hD : va_D A [(h0, .inr (3, [.ref h1, .int x_8])), (h1, .inl (cI, 9, .inl f_7))] := hD
      have hP9 := hP.sub (ws' := [(h0, .inr (3, [.ref h1, .int x_8])), (h1, .inl (cI, 9, .inl f_7))]) [0, 1] rfl
      have hD9 := hD.sub (ws' := [(h0, .inr (3, [.ref h1, .int x_8])), (h1, .inl (cI, 9, .inl f_7))]) [0, 1] (by decide) rfl
      exact W.vret hx hb hr (fun t ht hW => ⟨⟨(), rfl, trivial, ⟨x_8, f_7, (rg_mono hx_8 (by decide) (by decide)), hf_7, by rw [ht]; exact hP9, hD9⟩⟩, hS.F ht⟩) hS.2.2 dX3_add_36
def v_s_X0_unpack : List Cond := Cond.code yX0_unpack cX0_unpack 4 none :: ([Cond.fieldLink RX0 96 "MayRings$Order" "size" "I", Cond.fieldLink RX0 37 "MayRings$Families" "size" "I", Cond.methodLink RX0 115 yX3_add, Cond.instanceMethod yX3_add, Cond.selects RX3 yX3_add yX3_add, Cond.initialized RX3] ++ (wsX00 ++ (wsX30 ++ (v_s_X3_add ++ ([])))))
theorem k_s_X0_unpack : GoodIn lw_tbl v_s_X0_unpack := gd_c (List.mem_of_getElem? (i := 1090) (by decide +kernel)) rfl (goodIn_app (gd_c (List.mem_of_getElem? (i := 367) (by decide +kernel)) rfl (gd_c (List.mem_of_getElem? (i := 508) (by decide +kernel)) rfl (gd_c (List.mem_of_getElem? (i := 1091) (by decide +kernel)) rfl (gd_c (List.mem_of_getElem? (i := 858) (by decide +kernel)) rfl (gd_c (List.mem_of_getElem? (i := 859) (by decide +kernel)) rfl (gd_c (List.mem_of_getElem? (i := 140) (by decide +kernel)) rfl (gd_nil))))))) (goodIn_app kfX0 (goodIn_app kfX3 (goodIn_app k_s_X3_add (gd_nil)))))
set_option maxHeartbeats 2000000 in
set_option maxRecDepth 100000 in
theorem c_s_X0_unpack (l : Launch) (dC : Nat → ClassId) (dI : Nat → Nat → Nat) (cB cI cJ cZ cP : ClassId) (h0 : Nat) (h1 : Nat) (h2 : Nat) (h3 : Nat) (h4 : Nat) (h5 : Nat) (h6 : Nat) (a0 : Int32) (a1 : Int32) (a2 : Int32) (ha2 : rg (0) (9) a2) (a3 : Int32) (p0 : Int32) (h7 : Nat) (h8 : Nat) (g6 : Nat → Int32) (hg6 : rgA (0) (8) g6) (a5 : Int32) (kr0 : nb p0) (sz : Nat) : Met l yX0_unpack v_s_X0_unpack ({ frames := 1, cells := 0, slots := 0, locals := 21 }) (va_Pc [.ref h0, .int p0, .ref h7] (fun U => U.heap.size = sz ∧ va_P (dC, dI) vwCl [(h0, .inr (0, [.ref h1, .ref h2, .ref h3, .ref h4, .ref h5, .ref h6, .int a0, .int a1, .int a2, .int a3])), (h7, .inr (3, [.ref h8, .int a5])), (h8, .inl (cI, 9, .inl g6))] U.heap ∧ va_K (dC, dI) vwCl (ty5 cB cI cJ cZ cP) U ∧ va_D (fun _ => True) [(h0, .inr (0, [.ref h1, .ref h2, .ref h3, .ref h4, .ref h5, .ref h6, .int a0, .int a1, .int a2, .int a3])), (h7, .inr (3, [.ref h8, .int a5])), (h8, .inl (cI, 9, .inl g6))])) (va_Qv (fun _ : Unit => True) (fun _ t => ∃ (z0 : Int32) (z1 : Nat → Int32), rg (-1) (9) z0 ∧ rgA (0) (8) z1 ∧ va_P (dC, dI) vwCl [(h0, .inr (0, [.ref h1, .ref h2, .ref h3, .ref h4, .ref h5, .ref h6, .int a0, .int a1, .int a2, .int a3])), (h7, .inr (3, [.ref h8, .int z0])), (h8, .inl (cI, 9, .inl z1))] t.heap ∧ va_D (va_A [(h0, .inr (0, [.ref h1, .ref h2, .ref h3, .ref h4, .ref h5, .ref h6, .int a0, .int a1, .int a2, .int a3])), (h7, .inr (3, [.ref h8, .int a5])), (h8, .inl (cI, 9, .inl g6))] sz) [(h0, .inr (0, [.ref h1, .ref h2, .ref h3, .ref h4, .ref h5, .ref h6, .int a0, .int a1, .int a2, .int a3])), (h7, .inr (3, [.ref h8, .int z0])), (h8, .inl (cI, 9, .inl z1))]) (va_A [(h0, .inr (0, [.ref h1, .ref h2, .ref h3, .ref h4, .ref h5, .ref h6, .int a0, .int a1, .int a2, .int a3])), (h7, .inr (3, [.ref h8, .int a5])), (h8, .inl (cI, 9, .inl g6))] sz)) 0 0 (va_A [(h0, .inr (0, [.ref h1, .ref h2, .ref h3, .ref h4, .ref h5, .ref h6, .int a0, .int a1, .int a2, .int a3])), (h7, .inr (3, [.ref h8, .int a5])), (h8, .inl (cI, 9, .inl g6))] sz) := by
  refine Met.ofW (cc := cX0_unpack) (maxL := 4) (ret := none) (by decide) rfl ?_
  intro p e s m args below meth c s₁ B hml hv
  obtain ⟨rfl, hsz, hP, hK, hD0⟩ := hv
  have hx := B.exec
  have hb := B.bytes
  have hr := B.returns
  have hts := atoms_spec (ws := v_s_X0_unpack) B.pre
  have hown : s.vm.findClass RX0 = some m.cls := findClass_of_methodNamed B.named
  have hlocks := B.notSynchronized
  have hinX0 : ∀ w ∈ wsX00, w ∈ v_s_X0_unpack := fun _ h => List.mem_cons_of_mem _ (List.mem_append_right _ (List.mem_append_left _ h))
  have hinX3 : ∀ w ∈ wsX30, w ∈ v_s_X0_unpack := fun _ h => List.mem_cons_of_mem _ (List.mem_append_right _ (List.mem_append_right _ (List.mem_append_left _ h)))
  subst hsz
  have hD := hD0.self (sz := s.heap.size)
  generalize hAe : va_A [(h0, .inr (0, [.ref h1, .ref h2, .ref h3, .ref h4, .ref h5, .ref h6, .int a0, .int a1, .int a2, .int a3])), (h7, .inr (3, [.ref h8, .int a5])), (h8, .inl (cI, 9, .inl g6))] s.heap.size = A at hD ⊢
  have hA : ∀ q : Nat, s.heap.size ≤ q → A q := fun q h => by rw [← hAe]; exact Or.inr h
  have hP : va_P (dC, dI) vwCl [(h0, .inr (0, [.ref h1, .ref h2, .ref h3, .ref h4, .ref h5, .ref h6, .int a0, .int a1, .int a2, .int a3])), (h7, .inr (3, [.ref h8, .int a5])), (h8, .inl (cI, 9, .inl g6))] s.heap := hP
  have hl := lv_entry ([.ref h0, .int p0, .ref h7]) (n := 4) (Nat.le_of_ble_eq_true rfl)
  rw [lg_entry_eq]
  generalize (lg_sl ([.ref h0, .int p0, .ref h7]) ++ List.replicate (4 - (lg_sl ([.ref h0, .int p0, .ref h7])).length) Slot.unset).toArray = ls at hl ⊢
  have hl : lv_has ls 4 [(0, .ref h0), (1, .int p0), (2, .ref h7)] := hl
  refine W_gen (A := A) hP (fun H locs hP hS => ?_)
  refine lv_aload_n hx hb dX0_unpack_0 rfl (lv_at hl 2 rfl) ?_
  refine lv_iconst (v := 0) hx hb dX0_unpack_1 (by decide) ?_
  refine va_put (D := (dC, dI)) (ci := 3) (v := .int 0) (ty := .int) (C := RX3) (T := TX3) (N := 2) hx hb hts hinX3 tyX3 tyX3_ok nmX3 hown hK hP hD hS 1 rfl rfl 1 (by decide) (hts (.fieldLink RX0 96 "MayRings$Order" "size" "I") (List.mem_of_getElem? (i := 1) rfl)) (fun _ h9 => h9) rfl (by decide +kernel) (rfl) (rfl) (Nat.le_of_ble_eq_true rfl) dX0_unpack_2 (fun H locs hP hD hS => ?_)
  replace hP : va_P (dC, dI) vwCl [(h0, .inr (0, [.ref h1, .ref h2, .ref h3, .ref h4, .ref h5, .ref h6, .int a0, .int a1, .int a2, .int a3])), (h7, .inr (3, [.ref h8, .int 0])), (h8, .inl (cI, 9, .inl g6))] H := hP
  replace hD : va_D A [(h0, .inr (0, [.ref h1, .ref h2, .ref h3, .ref h4, .ref h5, .ref h6, .int a0, .int a1, .int a2, .int a3])), (h7, .inr (3, [.ref h8, .int 0])), (h8, .inl (cI, 9, .inl g6))] := hD
  refine lv_iconst (v := 0) hx hb dX0_unpack_5 (by decide) ?_
  refine lv_istore_n (lv' := [(3, .int 0), (0, .ref h0), (1, .int p0), (2, .ref h7)]) hx hb dX0_unpack_6 rfl hl (by decide) rfl (fun ls hl => ?_)
  refine W_loopM (σ := (Nat → Int32) × Int32 × Int32) (fun u H locs ls => va_P (dC, dI) vwCl [(h0, .inr (0, [.ref h1, .ref h2, .ref h3, .ref h4, .ref h5, .ref h6, .int a0, .int a1, .int a2, .int a3])), (h7, .inr (3, [.ref h8, .int u.2.2])), (h8, .inl (cI, 9, .inl u.1))] H ∧ va_D A [(h0, .inr (0, [.ref h1, .ref h2, .ref h3, .ref h4, .ref h5, .ref h6, .int a0, .int a1, .int a2, .int a3])), (h7, .inr (3, [.ref h8, .int u.2.2])), (h8, .inl (cI, 9, .inl u.1))] ∧ va_S A s.heap H locs ∧ lv_has ls 4 [(3, .int u.2.1), (0, .ref h0), (1, .int p0), (2, .ref h7)] ∧ rgA (0) (8) u.1 ∧ rg (0) (9) u.2.1 ∧ rg (-1) (9) u.2.2) (fun u => ((9) - u.2.1.toInt).toNat) 7 [] ?_ (g6, 0, 0) H locs ls ⟨hP, hD, hS, hl, hg6, (rg_mono (rg_k (x := 0) (c := 0) (by decide)) (by decide) (by decide)), (rg_mono (rg_k (x := 0) (c := 0) (by decide)) (by decide) (by decide))⟩
  rintro ⟨f_113, x_114, x_115⟩ H locs ls ⟨hP, hD, hS, hl, hf_113, hx_114, hx_115⟩ ih_127
  replace hP : va_P (dC, dI) vwCl [(h0, .inr (0, [.ref h1, .ref h2, .ref h3, .ref h4, .ref h5, .ref h6, .int a0, .int a1, .int a2, .int a3])), (h7, .inr (3, [.ref h8, .int x_115])), (h8, .inl (cI, 9, .inl f_113))] H := hP
  replace hD : va_D A [(h0, .inr (0, [.ref h1, .ref h2, .ref h3, .ref h4, .ref h5, .ref h6, .int a0, .int a1, .int a2, .int a3])), (h7, .inr (3, [.ref h8, .int x_115])), (h8, .inl (cI, 9, .inl f_113))] := hD
  replace hl : lv_has ls 4 [(3, .int x_114), (0, .ref h0), (1, .int p0), (2, .ref h7)] := hl
  replace hf_113 : rgA (0) (8) f_113 := hf_113
  replace hx_114 : rg (0) (9) x_114 := hx_114
  replace hx_115 : rg (-1) (9) x_115 := hx_115
  refine lv_iload_n hx hb dX0_unpack_7 rfl (lv_at hl 0 rfl) ?_
  refine lv_aload_n hx hb dX0_unpack_8 rfl (lv_at hl 1 rfl) ?_
  refine va_get (D := (dC, dI)) (ci := 0) (v := .int a2) (C := RX0) (T := TX0) (N := 10) hx hb hts hinX0 hown hK hP 0 rfl rfl 8 (by decide) (hts (.fieldLink RX0 37 "MayRings$Families" "size" "I") (List.mem_of_getElem? (i := 2) rfl)) (fun _ h9 => h9) rfl dX0_unpack_9 ?_
  refine lv_icmp_ge (tgt := 33) hx hb dX0_unpack_12 (by decide) (fun c_128 => ?_) (fun c_128 => ?_)
  · skip
    have hP9 := hP.sub (ws' := [(h0, .inr (0, [.ref h1, .ref h2, .ref h3, .ref h4, .ref h5, .ref h6, .int a0, .int a1, .int a2, .int a3])), (h7, .inr (3, [.ref h8, .int x_115])), (h8, .inl (cI, 9, .inl f_113))]) [0, 1, 2] rfl
    have hD9 := hD.sub (ws' := [(h0, .inr (0, [.ref h1, .ref h2, .ref h3, .ref h4, .ref h5, .ref h6, .int a0, .int a1, .int a2, .int a3])), (h7, .inr (3, [.ref h8, .int x_115])), (h8, .inl (cI, 9, .inl f_113))]) [0, 1, 2] (by decide) rfl
    exact W.vret hx hb hr (fun t ht hW => ⟨⟨(), rfl, trivial, ⟨x_115, f_113, (rg_mono hx_115 (by decide) (by decide)), hf_113, by rw [ht]; exact hP9, hD9⟩⟩, hS.F ht⟩) hS.2.2 dX0_unpack_33
  · skip
    have h_129 : rg (0) (8) x_114 := by have ha := hx_114; have hb_ := ha2; simp only [rg, fa_lt, fa_le, fa_eq] at ha hb_ c_128; simp only [rg]; omega
    have h_130 : rg (1) (9) a2 := by have ha := h_129; have hb_ := ha2; have hc_ := c_128; simp only [rg, fa_lt, fa_le, fa_eq] at ha hb_ hc_; simp only [rg]; omega
    have h_131 : rg (1) (9) a2 := by have ha := hx_114; have hb_ := ha2; simp only [rg, fa_lt, fa_le, fa_eq] at ha hb_ c_128; simp only [rg]; omega
    refine lv_aload_n hx hb dX0_unpack_15 rfl (lv_at hl 3 rfl) ?_
    refine lv_iload_n hx hb dX0_unpack_16 rfl (lv_at hl 2 rfl) ?_
    refine lv_iconst (v := 4) hx hb dX0_unpack_17 (by decide) ?_
    refine lv_iload_n hx hb dX0_unpack_18 rfl (lv_at hl 0 rfl) ?_
    refine lv_imul hx hb dX0_unpack_19 ?_
    refine lv_topi (fun x_132 ex_132 => ?_)
    have hx_132 : rg (0) (32) x_132 := by rw [ex_132]; exact rg_mono (rg_mul (rg_k (x := 4) (c := 4) (by decide)) h_129 (by decide) (by decide) (by decide)) (by decide) (by decide)
    refine lv_iushr hx hb dX0_unpack_20 rfl ?_
    refine lv_topi (fun x_133 ex_133 => ?_)
    refine lv_bipush (v := 15) hx hb dX0_unpack_21 (by decide) ?_
    refine lv_iand hx hb dX0_unpack_23 ?_
    refine lv_topi (fun x_134 ex_134 => ?_)
    have hx_134 : rg (0) (15) x_134 := by rw [ex_134]; exact rg_mono (rg_andr (b := 15) (rg_mono (rg_k (x := 15) (c := 15) (by decide)) (by decide) (by decide))) (by decide) (by decide)
    have h_135 : rg 0 8 x_134 := by rw [ex_134, ex_133, ex_132]; exact nb_at kr0 (rg_mono h_129 (by decide) (by decide))
    have hPc := hP.sub (ws' := [(h7, .inr (3, [.ref h8, .int x_115])), (h8, .inl (cI, 9, .inl f_113))]) [1, 2] rfl
    have hDc := hD.sub (ws' := [(h7, .inr (3, [.ref h8, .int x_115])), (h8, .inl (cI, 9, .inl f_113))]) [1, 2] (by decide) rfl
    have hFc := va_free (wc := [(h7, .inr (3, [.ref h8, .int x_115])), (h8, .inl (cI, 9, .inl f_113))]) hD hS hA [1, 2] rfl
    refine va_callv (va_runV (As := [.int x_134]) (rest := []) ⟨hx, hb, hml, hown, hts⟩ (c_s_X3_add l dC dI cB cI cJ cZ cP h7 h8 f_113 hf_113 x_115 (rg_mono hx_115 (by decide) (by decide)) x_134 (rg_mono h_135 (by decide) (by decide)) H.size) (cwV 1 hts (gd_V (List.mem_of_getElem? (i := 3) rfl) (List.mem_of_getElem? (i := 4) rfl) (List.mem_of_getElem? (i := 5) rfl) (List.mem_of_getElem? (i := 6) rfl) (gd_mono k_s_X3_add (fun _ h => List.mem_cons_of_mem _ (List.mem_append_right _ (List.mem_append_right _ (List.mem_append_right _ (List.mem_append_left _ h))))))) rfl rfl rfl (by decide +kernel) ⟨Nat.le_of_ble_eq_true rfl, Nat.le_of_ble_eq_true rfl⟩) ⟨fun a U g mk q => by obtain ⟨q0, q1, qP, qK, qD⟩ := q; exact ⟨q0, q1, qP, va_K.moved (u := U) (U := U.calling g mk a) (Vm.Alike.refl U.vm) qK, qD⟩, va_recv hK hPc (ci := 3) (q0 := 0) rfl rfl, fun U hU hW => ⟨rfl, by rw [hU], by rw [hU]; exact hPc, va_K.moved hW.alike hK, hDc.weaken (fun _ _ _ _ => trivial)⟩⟩ rfl rfl hl.1 rfl (lv_room (Nat.le_of_ble_eq_true rfl)) dX0_unpack_24 ⟨Nat.le_of_ble_eq_true rfl, Nat.le_of_ble_eq_true rfl⟩) hS (fun q _ h => hFc q h) hFc (fun u t H1 locs ht hvm hw hB hz1 hk1 hS => ?_)
    obtain ⟨x_137, f_138, hx_137, hf_138, hP1, hD1⟩ := hB
    rw [ht] at hP1
    obtain ⟨hP, hD⟩ := va_join (wr := [(h0, .inr (0, [.ref h1, .ref h2, .ref h3, .ref h4, .ref h5, .ref h6, .int a0, .int a1, .int a2, .int a3]))]) (w1 := [(h7, .inr (3, [.ref h8, .int x_137])), (h8, .inl (cI, 9, .inl f_138))]) hP hD [1, 2] [0] rfl rfl (by decide) (by decide) hk1 hFc hP1 hD1
    generalize H1 = H at hP hS ⊢
    replace hP : va_P (dC, dI) vwCl [(h0, .inr (0, [.ref h1, .ref h2, .ref h3, .ref h4, .ref h5, .ref h6, .int a0, .int a1, .int a2, .int a3])), (h7, .inr (3, [.ref h8, .int x_137])), (h8, .inl (cI, 9, .inl f_138))] H := hP
    replace hD : va_D A [(h0, .inr (0, [.ref h1, .ref h2, .ref h3, .ref h4, .ref h5, .ref h6, .int a0, .int a1, .int a2, .int a3])), (h7, .inr (3, [.ref h8, .int x_137])), (h8, .inl (cI, 9, .inl f_138))] := hD
    obtain ⟨x_139, ex_139⟩ : ∃ y : Int32, y = x_114 + Int32.ofInt (1) := ⟨_, rfl⟩
    have hx_139 : rg (1) (9) x_139 := by rw [ex_139]; exact rg_mono (rg_add h_129 (rg_k (x := Int32.ofInt (1)) (c := 1) (by decide)) (by decide) (by decide)) (by decide) (by decide)
    have qx_139 : x_139.toInt = x_114.toInt + (1) := by rw [ex_139]; exact rg_addE h_129 (rg_k (x := Int32.ofInt (1)) (c := 1) (by decide)) (by decide) (by decide) (by decide)
    refine lv_iinc (v := x_139) (lv' := [(3, .int x_139), (0, .ref h0), (1, .int p0), (2, .ref h7)]) hx hb dX0_unpack_27 hl (k := 0) rfl (ex_139.symm) (by decide) rfl (fun ls hl => ?_)
    clear ex_139
    refine lv_goto (tgt := 7) hx hb dX0_unpack_30 (by decide) ?_
    exact ih_127 (f_138, x_139, x_137) H locs ls ⟨hP.sub (ws' := [(h0, .inr (0, [.ref h1, .ref h2, .ref h3, .ref h4, .ref h5, .ref h6, .int a0, .int a1, .int a2, .int a3])), (h7, .inr (3, [.ref h8, .int x_137])), (h8, .inl (cI, 9, .inl f_138))]) [0, 1, 2] rfl, hD.sub (ws' := [(h0, .inr (0, [.ref h1, .ref h2, .ref h3, .ref h4, .ref h5, .ref h6, .int a0, .int a1, .int a2, .int a3])), (h7, .inr (3, [.ref h8, .int x_137])), (h8, .inl (cI, 9, .inl f_138))]) [0, 1, 2] (by decide) rfl, hS, lv_sub hl [0, 1, 2, 3] rfl, hf_138, (rg_mono hx_139 (by decide) (by decide)), (rg_mono hx_137 (by decide) (by decide))⟩ (by show ((9) - x_139.toInt).toNat < ((9) - x_114.toInt).toNat; have ha := h_129; simp only [rg] at ha; omega)
def v_s_X0_most : List Cond := Cond.code yX0_most cX0_most 6 (some .int) :: ([Cond.fieldLink RX0 96 "MayRings$Order" "size" "I", Cond.fieldLink RX0 30 "MayRings$Families" "count" "I", Cond.fieldLink RX0 11 "MayRings$Families" "sets" "[I", Cond.methodLink RX0 81 yJ6_bitCount_0f7a4, Cond.static yJ6_bitCount_0f7a4, Cond.initialized RJ6, Cond.methodLink RX0 99 Lib.Math.max.name, Cond.static Lib.Math.max.name, Cond.initialized RJ9, Cond.code Lib.Math.max.name Lib.Math.max.code 2 (some .int), Cond.fieldLink RX0 40 "MayRings$Families" "union" "I", Cond.methodLink RX0 105 Lib.Math.min.name, Cond.static Lib.Math.min.name, Cond.code Lib.Math.min.name Lib.Math.min.code 2 (some .int), Cond.fieldLink RX0 15 "MayRings$Families" "orders" "[I", Cond.methodLink RX0 111 yX0_unpack, Cond.instanceMethod yX0_unpack, Cond.selects RX0 yX0_unpack yX0_unpack, Cond.initialized RX0, Cond.methodLink RX0 108 yX0_leaderOf, Cond.instanceMethod yX0_leaderOf, Cond.selects RX0 yX0_leaderOf yX0_leaderOf] ++ (wsX00 ++ (wsX30 ++ (v_s_J6_bitCount_0f7a4 ++ (v_s_X0_unpack ++ (v_s_X0_leaderOf ++ ([])))))))
theorem k_s_X0_most : GoodIn lw_tbl v_s_X0_most := gd_c (List.mem_of_getElem? (i := 1060) (by decide +kernel)) rfl (goodIn_app (gd_c (List.mem_of_getElem? (i := 367) (by decide +kernel)) rfl (gd_c (List.mem_of_getElem? (i := 506) (by decide +kernel)) rfl (gd_c (List.mem_of_getElem? (i := 500) (by decide +kernel)) rfl (gd_c (List.mem_of_getElem? (i := 1052) (by decide +kernel)) rfl (gd_c (List.mem_of_getElem? (i := 878) (by decide +kernel)) rfl (gd_c (List.mem_of_getElem? (i := 147) (by decide +kernel)) rfl (gd_c (List.mem_of_getElem? (i := 1061) (by decide +kernel)) rfl (gd_c (List.mem_of_getElem? (i := 638) (by decide +kernel)) rfl (gd_c (List.mem_of_getElem? (i := 145) (by decide +kernel)) rfl (gd_c (List.mem_of_getElem? (i := 639) (by decide +kernel)) rfl (gd_c (List.mem_of_getElem? (i := 509) (by decide +kernel)) rfl (gd_c (List.mem_of_getElem? (i := 1062) (by decide +kernel)) rfl (gd_c (List.mem_of_getElem? (i := 589) (by decide +kernel)) rfl (gd_c (List.mem_of_getElem? (i := 590) (by decide +kernel)) rfl (gd_c (List.mem_of_getElem? (i := 501) (by decide +kernel)) rfl (gd_c (List.mem_of_getElem? (i := 1087) (by decide +kernel)) rfl (gd_c (List.mem_of_getElem? (i := 1089) (by decide +kernel)) rfl (gd_c (List.mem_of_getElem? (i := 64) (by decide +kernel)) rfl (gd_c (List.mem_of_getElem? (i := 143) (by decide +kernel)) rfl (gd_c (List.mem_of_getElem? (i := 1063) (by decide +kernel)) rfl (gd_c (List.mem_of_getElem? (i := 1065) (by decide +kernel)) rfl (gd_c (List.mem_of_getElem? (i := 58) (by decide +kernel)) rfl (gd_nil))))))))))))))))))))))) (goodIn_app kfX0 (goodIn_app kfX3 (goodIn_app k_s_J6_bitCount_0f7a4 (goodIn_app k_s_X0_unpack (goodIn_app k_s_X0_leaderOf (gd_nil)))))))
set_option maxHeartbeats 2000000 in
set_option maxRecDepth 100000 in
theorem c_s_X0_most (l : Launch) (dC : Nat → ClassId) (dI : Nat → Nat → Nat) (cB cI cJ cZ cP : ClassId) (h0 : Nat) (h1 : Nat) (g0 : Nat → Int32) (h2 : Nat) (g1 : Nat → Int32) (h3 : Nat) (g2 : Nat → Int32) (h4 : Nat) (h5 : Nat) (h6 : Nat) (g5 : Nat → Int32) (a0 : Int32) (ha0 : rg (0) (2520) a0) (a1 : Int32) (ha1 : rg (0) (2520) a1) (a2 : Int32) (ha2 : rg (0) (9) a2) (a3 : Int32) (h7 : Nat) (h8 : Nat) (g6 : Nat → Int32) (hg6 : rgA (0) (8) g6) (a4 : Int32) (kr0 : nbA g1) (sz : Nat) : Met l yX0_most v_s_X0_most ({ frames := 4, cells := 0, slots := 0, locals := 88 }) (va_Pc [.ref h0, .ref h7] (fun U => U.heap.size = sz ∧ va_P (dC, dI) vwCl [(h0, .inr (0, [.ref h1, .ref h2, .ref h3, .ref h4, .ref h5, .ref h6, .int a0, .int a1, .int a2, .int a3])), (h1, .inl (cI, 2520, .inl g0)), (h2, .inl (cI, 2520, .inl g1)), (h3, .inl (cI, 2520, .inl g2)), (h6, .inl (cI, 9, .inl g5)), (h7, .inr (3, [.ref h8, .int a4])), (h8, .inl (cI, 9, .inl g6))] U.heap ∧ va_K (dC, dI) vwCl (ty5 cB cI cJ cZ cP) U ∧ va_D (fun _ => True) [(h0, .inr (0, [.ref h1, .ref h2, .ref h3, .ref h4, .ref h5, .ref h6, .int a0, .int a1, .int a2, .int a3])), (h1, .inl (cI, 2520, .inl g0)), (h2, .inl (cI, 2520, .inl g1)), (h3, .inl (cI, 2520, .inl g2)), (h6, .inl (cI, 9, .inl g5)), (h7, .inr (3, [.ref h8, .int a4])), (h8, .inl (cI, 9, .inl g6))])) (va_Qi (fun (r : Int32) (u9 : Unit) => rg (0) (3) r) (fun u9 t => ∃ (z0 : Int32) (z1 : Nat → Int32) (z2 : Int32) (z3 : Nat → Int32), rg (0) (2520) z0 ∧ rg (-1) (9) z2 ∧ rgA (0) (8) z3 ∧ va_P (dC, dI) vwCl [(h0, .inr (0, [.ref h1, .ref h2, .ref h3, .ref h4, .ref h5, .ref h6, .int a0, .int z0, .int a2, .int a3])), (h1, .inl (cI, 2520, .inl g0)), (h2, .inl (cI, 2520, .inl g1)), (h3, .inl (cI, 2520, .inl z1)), (h6, .inl (cI, 9, .inl g5)), (h7, .inr (3, [.ref h8, .int z2])), (h8, .inl (cI, 9, .inl z3))] t.heap ∧ va_D (va_A [(h0, .inr (0, [.ref h1, .ref h2, .ref h3, .ref h4, .ref h5, .ref h6, .int a0, .int a1, .int a2, .int a3])), (h1, .inl (cI, 2520, .inl g0)), (h2, .inl (cI, 2520, .inl g1)), (h3, .inl (cI, 2520, .inl g2)), (h6, .inl (cI, 9, .inl g5)), (h7, .inr (3, [.ref h8, .int a4])), (h8, .inl (cI, 9, .inl g6))] sz) [(h0, .inr (0, [.ref h1, .ref h2, .ref h3, .ref h4, .ref h5, .ref h6, .int a0, .int z0, .int a2, .int a3])), (h1, .inl (cI, 2520, .inl g0)), (h2, .inl (cI, 2520, .inl g1)), (h3, .inl (cI, 2520, .inl z1)), (h6, .inl (cI, 9, .inl g5)), (h7, .inr (3, [.ref h8, .int z2])), (h8, .inl (cI, 9, .inl z3))]) (va_A [(h0, .inr (0, [.ref h1, .ref h2, .ref h3, .ref h4, .ref h5, .ref h6, .int a0, .int a1, .int a2, .int a3])), (h1, .inl (cI, 2520, .inl g0)), (h2, .inl (cI, 2520, .inl g1)), (h3, .inl (cI, 2520, .inl g2)), (h6, .inl (cI, 9, .inl g5)), (h7, .inr (3, [.ref h8, .int a4])), (h8, .inl (cI, 9, .inl g6))] sz)) 0 0 (va_A [(h0, .inr (0, [.ref h1, .ref h2, .ref h3, .ref h4, .ref h5, .ref h6, .int a0, .int a1, .int a2, .int a3])), (h1, .inl (cI, 2520, .inl g0)), (h2, .inl (cI, 2520, .inl g1)), (h3, .inl (cI, 2520, .inl g2)), (h6, .inl (cI, 9, .inl g5)), (h7, .inr (3, [.ref h8, .int a4])), (h8, .inl (cI, 9, .inl g6))] sz) := by
  refine Met.ofW (cc := cX0_most) (maxL := 6) (ret := (some .int)) (by decide) rfl ?_
  intro p e s m args below meth c s₁ B hml hv
  obtain ⟨rfl, hsz, hP, hK, hD0⟩ := hv
  have hx := B.exec
  have hb := B.bytes
  have hr := B.returns
  have hts := atoms_spec (ws := v_s_X0_most) B.pre
  have hown : s.vm.findClass RX0 = some m.cls := findClass_of_methodNamed B.named
  have hlocks := B.notSynchronized
  have hinX0 : ∀ w ∈ wsX00, w ∈ v_s_X0_most := fun _ h => List.mem_cons_of_mem _ (List.mem_append_right _ (List.mem_append_left _ h))
  have hinX3 : ∀ w ∈ wsX30, w ∈ v_s_X0_most := fun _ h => List.mem_cons_of_mem _ (List.mem_append_right _ (List.mem_append_right _ (List.mem_append_left _ h)))
  subst hsz
  have hD := hD0.self (sz := s.heap.size)
  generalize hAe : va_A [(h0, .inr (0, [.ref h1, .ref h2, .ref h3, .ref h4, .ref h5, .ref h6, .int a0, .int a1, .int a2, .int a3])), (h1, .inl (cI, 2520, .inl g0)), (h2, .inl (cI, 2520, .inl g1)), (h3, .inl (cI, 2520, .inl g2)), (h6, .inl (cI, 9, .inl g5)), (h7, .inr (3, [.ref h8, .int a4])), (h8, .inl (cI, 9, .inl g6))] s.heap.size = A at hD ⊢
  have hA : ∀ q : Nat, s.heap.size ≤ q → A q := fun q h => by rw [← hAe]; exact Or.inr h
  have hP : va_P (dC, dI) vwCl [(h0, .inr (0, [.ref h1, .ref h2, .ref h3, .ref h4, .ref h5, .ref h6, .int a0, .int a1, .int a2, .int a3])), (h1, .inl (cI, 2520, .inl g0)), (h2, .inl (cI, 2520, .inl g1)), (h3, .inl (cI, 2520, .inl g2)), (h6, .inl (cI, 9, .inl g5)), (h7, .inr (3, [.ref h8, .int a4])), (h8, .inl (cI, 9, .inl g6))] s.heap := hP
  have hl := lv_entry ([.ref h0, .ref h7]) (n := 6) (Nat.le_of_ble_eq_true rfl)
  rw [lg_entry_eq]
  generalize (lg_sl ([.ref h0, .ref h7]) ++ List.replicate (6 - (lg_sl ([.ref h0, .ref h7])).length) Slot.unset).toArray = ls at hl ⊢
  have hl : lv_has ls 6 [(0, .ref h0), (1, .ref h7)] := hl
  refine W_gen (A := A) hP (fun H locs hP hS => ?_)
  refine lv_aload_n hx hb dX0_most_0 rfl (lv_at hl 1 rfl) ?_
  refine lv_iconst (v := (-1)) hx hb dX0_most_1 (by decide) ?_
  refine va_put (D := (dC, dI)) (ci := 3) (v := .int (-1)) (ty := .int) (C := RX3) (T := TX3) (N := 2) hx hb hts hinX3 tyX3 tyX3_ok nmX3 hown hK hP hD hS 5 rfl rfl 1 (by decide) (hts (.fieldLink RX0 96 "MayRings$Order" "size" "I") (List.mem_of_getElem? (i := 1) rfl)) (fun _ h9 => h9) rfl (by decide +kernel) (rfl) (rfl) (Nat.le_of_ble_eq_true rfl) dX0_most_2 (fun H locs hP hD hS => ?_)
  replace hP : va_P (dC, dI) vwCl [(h0, .inr (0, [.ref h1, .ref h2, .ref h3, .ref h4, .ref h5, .ref h6, .int a0, .int a1, .int a2, .int a3])), (h1, .inl (cI, 2520, .inl g0)), (h2, .inl (cI, 2520, .inl g1)), (h3, .inl (cI, 2520, .inl g2)), (h6, .inl (cI, 9, .inl g5)), (h7, .inr (3, [.ref h8, .int (-1)])), (h8, .inl (cI, 9, .inl g6))] H := hP
  replace hD : va_D A [(h0, .inr (0, [.ref h1, .ref h2, .ref h3, .ref h4, .ref h5, .ref h6, .int a0, .int a1, .int a2, .int a3])), (h1, .inl (cI, 2520, .inl g0)), (h2, .inl (cI, 2520, .inl g1)), (h3, .inl (cI, 2520, .inl g2)), (h6, .inl (cI, 9, .inl g5)), (h7, .inr (3, [.ref h8, .int (-1)])), (h8, .inl (cI, 9, .inl g6))] := hD
  refine lv_aload_n hx hb dX0_most_5 rfl (lv_at hl 0 rfl) ?_
  refine va_get (D := (dC, dI)) (ci := 0) (v := .int a0) (C := RX0) (T := TX0) (N := 10) hx hb hts hinX0 hown hK hP 0 rfl rfl 6 (by decide) (hts (.fieldLink RX0 30 "MayRings$Families" "count" "I") (List.mem_of_getElem? (i := 2) rfl)) (fun _ h9 => h9) rfl dX0_most_6 ?_
  refine lv_if_ne (tgt := 14) hx hb dX0_most_9 (by decide) (fun c_1 => ?_) (fun c_1 => ?_)
  · skip
    have h_2 : rg (1) (2520) a0 := by have ha := ha0; have hb_ := (rg_k (x := 0) (c := 0) (by decide)); simp only [rg, fa_lt, fa_le, fa_eq, (by decide : (0 : Int32).toInt = 0)] at ha hb_ c_1; simp only [rg]; omega
    refine lv_iconst (v := 1) hx hb dX0_most_14 (by decide) ?_
    refine lv_aload_n hx hb dX0_most_15 rfl (lv_at hl 0 rfl) ?_
    refine va_get (D := (dC, dI)) (ci := 0) (v := .ref h1) (C := RX0) (T := TX0) (N := 10) hx hb hts hinX0 hown hK hP 0 rfl rfl 0 (by decide) (hts (.fieldLink RX0 11 "MayRings$Families" "sets" "[I") (List.mem_of_getElem? (i := 3) rfl)) (fun _ h9 => h9) rfl dX0_most_16 ?_
    refine lv_iconst (v := 0) hx hb dX0_most_19 (by decide) ?_
    refine va_iald hx hb hK hP 1 1 rfl rfl (rg_in (n := 2520) (rg_mono (rg_k (x := 0) (c := 0) (by decide)) (by decide) (by decide))) dX0_most_20 ?_
    refine lv_topi (fun x_3 ex_3 => ?_)
    have hPc := hP.sub (ws' := []) [] rfl
    have hDc := hD.sub (ws' := []) [] (by decide) rfl
    have hFc := va_free (wc := []) hD hS hA [] rfl
    refine va_calli (va_runS (As := [.int x_3]) (rest := [.int 1]) ⟨hx, hb, hml, hown, hts⟩ (c_s_J6_bitCount_0f7a4 l dC dI cB cI cJ cZ cP x_3 H.size) (va_cwS 1 hts (gd_S (List.mem_of_getElem? (i := 4) rfl) (List.mem_of_getElem? (i := 5) rfl) (List.mem_of_getElem? (i := 6) rfl) (gd_mono k_s_J6_bitCount_0f7a4 (fun _ h => List.mem_cons_of_mem _ (List.mem_append_right _ (List.mem_append_right _ (List.mem_append_right _ (List.mem_append_left _ h))))))) rfl rfl rfl (by decide +kernel) ⟨Nat.le_of_ble_eq_true rfl, Nat.le_of_ble_eq_true rfl⟩) ⟨fun a U g mk q => by obtain ⟨q0, q1, qP, qK, qD⟩ := q; exact ⟨q0, q1, qP, va_K.moved (u := U) (U := U.calling g mk a) (Vm.Alike.refl U.vm) qK, qD⟩, fun U hU hW => ⟨rfl, by rw [hU], by rw [hU]; exact hPc, va_K.moved hW.alike hK, hDc.weaken (fun _ _ _ _ => trivial)⟩⟩ rfl rfl hl.1 rfl (lv_room (Nat.le_of_ble_eq_true rfl)) dX0_most_21 ⟨Nat.le_of_ble_eq_true rfl, Nat.le_of_ble_eq_true rfl⟩) hS (fun q _ h => hFc q h) hFc (fun r_4 u t H1 locs ht hvm hw hB hz1 hk1 hS => ?_)
    obtain ⟨hP1, hD1⟩ := hB
    rw [ht] at hP1
    obtain ⟨hP, hD⟩ := va_join (wr := [(h0, .inr (0, [.ref h1, .ref h2, .ref h3, .ref h4, .ref h5, .ref h6, .int a0, .int a1, .int a2, .int a3])), (h1, .inl (cI, 2520, .inl g0)), (h2, .inl (cI, 2520, .inl g1)), (h3, .inl (cI, 2520, .inl g2)), (h6, .inl (cI, 9, .inl g5)), (h7, .inr (3, [.ref h8, .int (-1)])), (h8, .inl (cI, 9, .inl g6))]) (w1 := []) hP hD [] [0, 1, 2, 3, 4, 5, 6] rfl rfl (by decide) (by decide) hk1 hFc hP1 hD1
    generalize H1 = H at hP hS ⊢
    replace hP : va_P (dC, dI) vwCl [(h0, .inr (0, [.ref h1, .ref h2, .ref h3, .ref h4, .ref h5, .ref h6, .int a0, .int a1, .int a2, .int a3])), (h1, .inl (cI, 2520, .inl g0)), (h2, .inl (cI, 2520, .inl g1)), (h3, .inl (cI, 2520, .inl g2)), (h6, .inl (cI, 9, .inl g5)), (h7, .inr (3, [.ref h8, .int (-1)])), (h8, .inl (cI, 9, .inl g6))] H := hP
    replace hD : va_D A [(h0, .inr (0, [.ref h1, .ref h2, .ref h3, .ref h4, .ref h5, .ref h6, .int a0, .int a1, .int a2, .int a3])), (h1, .inl (cI, 2520, .inl g0)), (h2, .inl (cI, 2520, .inl g1)), (h3, .inl (cI, 2520, .inl g2)), (h6, .inl (cI, 9, .inl g5)), (h7, .inr (3, [.ref h8, .int (-1)])), (h8, .inl (cI, 9, .inl g6))] := hD
    have hr_4 : rg (0) (63) r_4 := hw
    refine va_mmax hx hb (by rw [hml]; exact hl.1.symm) hown (hts (.methodLink RX0 99 Lib.Math.max.name) (List.mem_of_getElem? (i := 7) rfl)) (hts (.static Lib.Math.max.name) (List.mem_of_getElem? (i := 8) rfl)) (hts (.initialized RJ9) (List.mem_of_getElem? (i := 9) rfl)) (hts (.code Lib.Math.max.name Lib.Math.max.code 2 (some .int)) (List.mem_of_getElem? (i := 10) rfl)) (Nat.le_of_ble_eq_true rfl) (Nat.le_of_ble_eq_true rfl) (Nat.le_of_ble_eq_true rfl) (Nat.le_of_ble_eq_true rfl) dX0_most_24 ?_
    refine lv_topi (fun x_5 ex_5 => ?_)
    have hx_5 : rg (1) (63) x_5 := by rw [ex_5]; exact rg_mono (rg_max (rg_k (x := 1) (c := 1) (by decide)) hr_4) (by decide) (by decide)
    clear ex_5
    refine lv_istore_n (lv' := [(2, .int x_5), (0, .ref h0), (1, .ref h7)]) hx hb dX0_most_27 rfl hl (by decide) rfl (fun ls hl => ?_)
    refine lv_iconst (v := 3) hx hb dX0_most_28 (by decide) ?_
    refine lv_aload_n hx hb dX0_most_29 rfl (lv_at hl 1 rfl) ?_
    refine va_get (D := (dC, dI)) (ci := 0) (v := .int a3) (C := RX0) (T := TX0) (N := 10) hx hb hts hinX0 hown hK hP 0 rfl rfl 9 (by decide) (hts (.fieldLink RX0 40 "MayRings$Families" "union" "I") (List.mem_of_getElem? (i := 11) rfl)) (fun _ h9 => h9) rfl dX0_most_30 ?_
    have hPc := hP.sub (ws' := []) [] rfl
    have hDc := hD.sub (ws' := []) [] (by decide) rfl
    have hFc := va_free (wc := []) hD hS hA [] rfl
    refine va_calli (va_runS (As := [.int a3]) (rest := [.int 3]) ⟨hx, hb, hml, hown, hts⟩ (c_s_J6_bitCount_0f7a4 l dC dI cB cI cJ cZ cP a3 H.size) (va_cwS 1 hts (gd_S (List.mem_of_getElem? (i := 4) rfl) (List.mem_of_getElem? (i := 5) rfl) (List.mem_of_getElem? (i := 6) rfl) (gd_mono k_s_J6_bitCount_0f7a4 (fun _ h => List.mem_cons_of_mem _ (List.mem_append_right _ (List.mem_append_right _ (List.mem_append_right _ (List.mem_append_left _ h))))))) rfl rfl rfl (by decide +kernel) ⟨Nat.le_of_ble_eq_true rfl, Nat.le_of_ble_eq_true rfl⟩) ⟨fun a U g mk q => by obtain ⟨q0, q1, qP, qK, qD⟩ := q; exact ⟨q0, q1, qP, va_K.moved (u := U) (U := U.calling g mk a) (Vm.Alike.refl U.vm) qK, qD⟩, fun U hU hW => ⟨rfl, by rw [hU], by rw [hU]; exact hPc, va_K.moved hW.alike hK, hDc.weaken (fun _ _ _ _ => trivial)⟩⟩ rfl rfl hl.1 rfl (lv_room (Nat.le_of_ble_eq_true rfl)) dX0_most_33 ⟨Nat.le_of_ble_eq_true rfl, Nat.le_of_ble_eq_true rfl⟩) hS (fun q _ h => hFc q h) hFc (fun r_6 u t H1 locs ht hvm hw hB hz1 hk1 hS => ?_)
    obtain ⟨hP1, hD1⟩ := hB
    rw [ht] at hP1
    obtain ⟨hP, hD⟩ := va_join (wr := [(h0, .inr (0, [.ref h1, .ref h2, .ref h3, .ref h4, .ref h5, .ref h6, .int a0, .int a1, .int a2, .int a3])), (h1, .inl (cI, 2520, .inl g0)), (h2, .inl (cI, 2520, .inl g1)), (h3, .inl (cI, 2520, .inl g2)), (h6, .inl (cI, 9, .inl g5)), (h7, .inr (3, [.ref h8, .int (-1)])), (h8, .inl (cI, 9, .inl g6))]) (w1 := []) hP hD [] [0, 1, 2, 3, 4, 5, 6] rfl rfl (by decide) (by decide) hk1 hFc hP1 hD1
    generalize H1 = H at hP hS ⊢
    replace hP : va_P (dC, dI) vwCl [(h0, .inr (0, [.ref h1, .ref h2, .ref h3, .ref h4, .ref h5, .ref h6, .int a0, .int a1, .int a2, .int a3])), (h1, .inl (cI, 2520, .inl g0)), (h2, .inl (cI, 2520, .inl g1)), (h3, .inl (cI, 2520, .inl g2)), (h6, .inl (cI, 9, .inl g5)), (h7, .inr (3, [.ref h8, .int (-1)])), (h8, .inl (cI, 9, .inl g6))] H := hP
    replace hD : va_D A [(h0, .inr (0, [.ref h1, .ref h2, .ref h3, .ref h4, .ref h5, .ref h6, .int a0, .int a1, .int a2, .int a3])), (h1, .inl (cI, 2520, .inl g0)), (h2, .inl (cI, 2520, .inl g1)), (h3, .inl (cI, 2520, .inl g2)), (h6, .inl (cI, 9, .inl g5)), (h7, .inr (3, [.ref h8, .int (-1)])), (h8, .inl (cI, 9, .inl g6))] := hD
    have hr_6 : rg (0) (63) r_6 := hw
    refine lv_iload_n hx hb dX0_most_36 rfl (lv_at hl 0 rfl) ?_
    refine lv_idiv hx hb dX0_most_37 (rg_nz (b := 63) (rg_mono hx_5 (by decide) (by decide))) ?_
    refine lv_topi (fun x_7 ex_7 => ?_)
    have hx_7 : rg (0) (63) x_7 := by rw [ex_7]; exact rg_mono (rg_div (b := 63) (d := 63) (rg_mono hr_6 (by decide) (by decide)) (rg_mono hx_5 (by decide) (by decide))) (by decide) (by decide)
    refine va_mmin hx hb (by rw [hml]; exact hl.1.symm) hown (hts (.methodLink RX0 105 Lib.Math.min.name) (List.mem_of_getElem? (i := 12) rfl)) (hts (.static Lib.Math.min.name) (List.mem_of_getElem? (i := 13) rfl)) (hts (.initialized RJ9) (List.mem_of_getElem? (i := 9) rfl)) (hts (.code Lib.Math.min.name Lib.Math.min.code 2 (some .int)) (List.mem_of_getElem? (i := 14) rfl)) (Nat.le_of_ble_eq_true rfl) (Nat.le_of_ble_eq_true rfl) (Nat.le_of_ble_eq_true rfl) (Nat.le_of_ble_eq_true rfl) dX0_most_38 ?_
    refine lv_topi (fun x_8 ex_8 => ?_)
    have hx_8 : rg (0) (3) x_8 := by rw [ex_8]; exact rg_mono (rg_min (rg_k (x := 3) (c := 3) (by decide)) hx_7) (by decide) (by decide)
    clear ex_8
    refine lv_istore_n (lv' := [(3, .int x_8), (2, .int x_5), (0, .ref h0), (1, .ref h7)]) hx hb dX0_most_41 rfl hl (by decide) rfl (fun ls hl => ?_)
    refine lv_iload_n hx hb dX0_most_42 rfl (lv_at hl 0 rfl) ?_
    refine lv_istore (lv' := [(4, .int x_8), (3, .int x_8), (2, .int x_5), (0, .ref h0), (1, .ref h7)]) hx hb dX0_most_43 hl (by decide) rfl (fun ls hl => ?_)
    refine W_loopM (σ := (Nat → Int32) × Int32 × Int32) (fun u H locs ls => va_P (dC, dI) vwCl [(h0, .inr (0, [.ref h1, .ref h2, .ref h3, .ref h4, .ref h5, .ref h6, .int a0, .int u.2.2, .int a2, .int a3])), (h1, .inl (cI, 2520, .inl g0)), (h2, .inl (cI, 2520, .inl g1)), (h3, .inl (cI, 2520, .inl u.1)), (h6, .inl (cI, 9, .inl g5)), (h7, .inr (3, [.ref h8, .int (-1)])), (h8, .inl (cI, 9, .inl g6))] H ∧ va_D A [(h0, .inr (0, [.ref h1, .ref h2, .ref h3, .ref h4, .ref h5, .ref h6, .int a0, .int u.2.2, .int a2, .int a3])), (h1, .inl (cI, 2520, .inl g0)), (h2, .inl (cI, 2520, .inl g1)), (h3, .inl (cI, 2520, .inl u.1)), (h6, .inl (cI, 9, .inl g5)), (h7, .inr (3, [.ref h8, .int (-1)])), (h8, .inl (cI, 9, .inl g6))] ∧ va_S A s.heap H locs ∧ lv_has ls 6 [(4, .int u.2.1), (3, .int x_8), (2, .int x_5), (0, .ref h0), (1, .ref h7)] ∧ rg (0) (3) u.2.1 ∧ rg (0) (2520) u.2.2) (fun u => (u.2.1.toInt - (1)).toNat) 45 [] ?_ (g2, x_8, a1) H locs ls ⟨hP, hD, hS, hl, (rg_mono hx_8 (by decide) (by decide)), (rg_mono ha1 (by decide) (by decide))⟩
    rintro ⟨f_27, x_28, x_29⟩ H locs ls ⟨hP, hD, hS, hl, hx_28, hx_29⟩ ih_48
    replace hP : va_P (dC, dI) vwCl [(h0, .inr (0, [.ref h1, .ref h2, .ref h3, .ref h4, .ref h5, .ref h6, .int a0, .int x_29, .int a2, .int a3])), (h1, .inl (cI, 2520, .inl g0)), (h2, .inl (cI, 2520, .inl g1)), (h3, .inl (cI, 2520, .inl f_27)), (h6, .inl (cI, 9, .inl g5)), (h7, .inr (3, [.ref h8, .int (-1)])), (h8, .inl (cI, 9, .inl g6))] H := hP
    replace hD : va_D A [(h0, .inr (0, [.ref h1, .ref h2, .ref h3, .ref h4, .ref h5, .ref h6, .int a0, .int x_29, .int a2, .int a3])), (h1, .inl (cI, 2520, .inl g0)), (h2, .inl (cI, 2520, .inl g1)), (h3, .inl (cI, 2520, .inl f_27)), (h6, .inl (cI, 9, .inl g5)), (h7, .inr (3, [.ref h8, .int (-1)])), (h8, .inl (cI, 9, .inl g6))] := hD
    replace hl : lv_has ls 6 [(4, .int x_28), (3, .int x_8), (2, .int x_5), (0, .ref h0), (1, .ref h7)] := hl
    replace hx_28 : rg (0) (3) x_28 := hx_28
    replace hx_29 : rg (0) (2520) x_29 := hx_29
    refine lv_iload hx hb dX0_most_45 (lv_at hl 0 rfl) ?_
    refine lv_iconst (v := 1) hx hb dX0_most_47 (by decide) ?_
    refine lv_icmp_le (tgt := 86) hx hb dX0_most_48 (by decide) (fun c_49 => ?_) (fun c_49 => ?_)
    · skip
      have h_50 : rg (0) (1) x_28 := by have ha := hx_28; have hb_ := (rg_k (x := 1) (c := 1) (by decide)); simp only [rg, fa_lt, fa_le, fa_eq, (by decide : (1 : Int32).toInt = 1)] at ha hb_ c_49; simp only [rg]; omega
      refine lv_aload_n hx hb dX0_most_86 rfl (lv_at hl 3 rfl) ?_
      refine lv_aload_n hx hb dX0_most_87 rfl (lv_at hl 3 rfl) ?_
      refine va_get (D := (dC, dI)) (ci := 0) (v := .ref h2) (C := RX0) (T := TX0) (N := 10) hx hb hts hinX0 hown hK hP 0 rfl rfl 1 (by decide) (hts (.fieldLink RX0 15 "MayRings$Families" "orders" "[I") (List.mem_of_getElem? (i := 15) rfl)) (fun _ h9 => h9) rfl dX0_most_88 ?_
      refine lv_iconst (v := 0) hx hb dX0_most_91 (by decide) ?_
      refine va_iald hx hb hK hP 2 1 rfl rfl (rg_in (n := 2520) (rg_mono (rg_k (x := 0) (c := 0) (by decide)) (by decide) (by decide))) dX0_most_92 ?_
      refine lv_topi (fun x_51 ex_51 => ?_)
      refine lv_aload_n hx hb dX0_most_93 rfl (lv_at hl 4 rfl) ?_
      have hPc := hP.sub (ws' := [(h0, .inr (0, [.ref h1, .ref h2, .ref h3, .ref h4, .ref h5, .ref h6, .int a0, .int x_29, .int a2, .int a3])), (h7, .inr (3, [.ref h8, .int (-1)])), (h8, .inl (cI, 9, .inl g6))]) [0, 5, 6] rfl
      have hDc := hD.sub (ws' := [(h0, .inr (0, [.ref h1, .ref h2, .ref h3, .ref h4, .ref h5, .ref h6, .int a0, .int x_29, .int a2, .int a3])), (h7, .inr (3, [.ref h8, .int (-1)])), (h8, .inl (cI, 9, .inl g6))]) [0, 5, 6] (by decide) rfl
      have hFc := va_free (wc := [(h0, .inr (0, [.ref h1, .ref h2, .ref h3, .ref h4, .ref h5, .ref h6, .int a0, .int x_29, .int a2, .int a3])), (h7, .inr (3, [.ref h8, .int (-1)])), (h8, .inl (cI, 9, .inl g6))]) hD hS hA [0, 5, 6] rfl
      refine va_callv (va_runV (As := [.int x_51, .ref h7]) (rest := []) ⟨hx, hb, hml, hown, hts⟩ (c_s_X0_unpack l dC dI cB cI cJ cZ cP h0 h1 h2 h3 h4 h5 h6 a0 x_29 a2 (rg_mono ha2 (by decide) (by decide)) a3 x_51 h7 h8 g6 hg6 ((-1)) (show nb x_51 from (by rw [ex_51]; exact kr0 _)) H.size) (cwV 2 hts (gd_V (List.mem_of_getElem? (i := 16) rfl) (List.mem_of_getElem? (i := 17) rfl) (List.mem_of_getElem? (i := 18) rfl) (List.mem_of_getElem? (i := 19) rfl) (gd_mono k_s_X0_unpack (fun _ h => List.mem_cons_of_mem _ (List.mem_append_right _ (List.mem_append_right _ (List.mem_append_right _ (List.mem_append_right _ (List.mem_append_left _ h)))))))) rfl rfl rfl (by decide +kernel) ⟨Nat.le_of_ble_eq_true rfl, Nat.le_of_ble_eq_true rfl⟩) ⟨fun a U g mk q => by obtain ⟨q0, q1, qP, qK, qD⟩ := q; exact ⟨q0, q1, qP, va_K.moved (u := U) (U := U.calling g mk a) (Vm.Alike.refl U.vm) qK, qD⟩, va_recv hK hPc (ci := 0) (q0 := 0) rfl rfl, fun U hU hW => ⟨rfl, by rw [hU], by rw [hU]; exact hPc, va_K.moved hW.alike hK, hDc.weaken (fun _ _ _ _ => trivial)⟩⟩ rfl rfl hl.1 rfl (lv_room (Nat.le_of_ble_eq_true rfl)) dX0_most_94 ⟨Nat.le_of_ble_eq_true rfl, Nat.le_of_ble_eq_true rfl⟩) hS (fun q _ h => hFc q h) hFc (fun u t H1 locs ht hvm hw hB hz1 hk1 hS => ?_)
      obtain ⟨x_53, f_54, hx_53, hf_54, hP1, hD1⟩ := hB
      rw [ht] at hP1
      obtain ⟨hP, hD⟩ := va_join (wr := [(h1, .inl (cI, 2520, .inl g0)), (h2, .inl (cI, 2520, .inl g1)), (h3, .inl (cI, 2520, .inl f_27)), (h6, .inl (cI, 9, .inl g5))]) (w1 := [(h0, .inr (0, [.ref h1, .ref h2, .ref h3, .ref h4, .ref h5, .ref h6, .int a0, .int x_29, .int a2, .int a3])), (h7, .inr (3, [.ref h8, .int x_53])), (h8, .inl (cI, 9, .inl f_54))]) hP hD [0, 5, 6] [1, 2, 3, 4] rfl rfl (by decide) (by decide) hk1 hFc hP1 hD1
      generalize H1 = H at hP hS ⊢
      replace hP : va_P (dC, dI) vwCl [(h1, .inl (cI, 2520, .inl g0)), (h2, .inl (cI, 2520, .inl g1)), (h3, .inl (cI, 2520, .inl f_27)), (h6, .inl (cI, 9, .inl g5)), (h0, .inr (0, [.ref h1, .ref h2, .ref h3, .ref h4, .ref h5, .ref h6, .int a0, .int x_29, .int a2, .int a3])), (h7, .inr (3, [.ref h8, .int x_53])), (h8, .inl (cI, 9, .inl f_54))] H := hP
      replace hD : va_D A [(h1, .inl (cI, 2520, .inl g0)), (h2, .inl (cI, 2520, .inl g1)), (h3, .inl (cI, 2520, .inl f_27)), (h6, .inl (cI, 9, .inl g5)), (h0, .inr (0, [.ref h1, .ref h2, .ref h3, .ref h4, .ref h5, .ref h6, .int a0, .int x_29, .int a2, .int a3])), (h7, .inr (3, [.ref h8, .int x_53])), (h8, .inl (cI, 9, .inl f_54))] := hD
      refine lv_iconst (v := 1) hx hb dX0_most_97 (by decide) ?_
      have hP9 := hP.sub (ws' := [(h0, .inr (0, [.ref h1, .ref h2, .ref h3, .ref h4, .ref h5, .ref h6, .int a0, .int x_29, .int a2, .int a3])), (h1, .inl (cI, 2520, .inl g0)), (h2, .inl (cI, 2520, .inl g1)), (h3, .inl (cI, 2520, .inl f_27)), (h6, .inl (cI, 9, .inl g5)), (h7, .inr (3, [.ref h8, .int x_53])), (h8, .inl (cI, 9, .inl f_54))]) [4, 0, 1, 2, 3, 5, 6] rfl
      have hD9 := hD.sub (ws' := [(h0, .inr (0, [.ref h1, .ref h2, .ref h3, .ref h4, .ref h5, .ref h6, .int a0, .int x_29, .int a2, .int a3])), (h1, .inl (cI, 2520, .inl g0)), (h2, .inl (cI, 2520, .inl g1)), (h3, .inl (cI, 2520, .inl f_27)), (h6, .inl (cI, 9, .inl g5)), (h7, .inr (3, [.ref h8, .int x_53])), (h8, .inl (cI, 9, .inl f_54))]) [4, 0, 1, 2, 3, 5, 6] (by decide) rfl
      exact W.iret (v := 1) hx hb hr (fun t ht hW => ⟨⟨1, (), rfl, (rg_mono (rg_k (x := 1) (c := 1) (by decide)) (by decide) (by decide)), ⟨x_29, f_27, x_53, f_54, (rg_mono hx_29 (by decide) (by decide)), (rg_mono hx_53 (by decide) (by decide)), hf_54, by rw [ht]; exact hP9, hD9⟩⟩, hS.F ht⟩) hS.2.2 dX0_most_98
    · skip
      have h_55 : rg (2) (3) x_28 := by have ha := hx_28; have hb_ := (rg_k (x := 1) (c := 1) (by decide)); simp only [rg, fa_lt, fa_le, fa_eq, (by decide : (1 : Int32).toInt = 1)] at ha hb_ c_49; simp only [rg]; omega
      refine lv_aload_n hx hb dX0_most_51 rfl (lv_at hl 3 rfl) ?_
      refine lv_iload hx hb dX0_most_52 (lv_at hl 0 rfl) ?_
      have hPc := hP.sub (ws' := [(h0, .inr (0, [.ref h1, .ref h2, .ref h3, .ref h4, .ref h5, .ref h6, .int a0, .int x_29, .int a2, .int a3])), (h1, .inl (cI, 2520, .inl g0)), (h2, .inl (cI, 2520, .inl g1)), (h3, .inl (cI, 2520, .inl f_27)), (h6, .inl (cI, 9, .inl g5))]) [0, 1, 2, 3, 4] rfl
      have hDc := hD.sub (ws' := [(h0, .inr (0, [.ref h1, .ref h2, .ref h3, .ref h4, .ref h5, .ref h6, .int a0, .int x_29, .int a2, .int a3])), (h1, .inl (cI, 2520, .inl g0)), (h2, .inl (cI, 2520, .inl g1)), (h3, .inl (cI, 2520, .inl f_27)), (h6, .inl (cI, 9, .inl g5))]) [0, 1, 2, 3, 4] (by decide) rfl
      have hFc := va_free (wc := [(h0, .inr (0, [.ref h1, .ref h2, .ref h3, .ref h4, .ref h5, .ref h6, .int a0, .int x_29, .int a2, .int a3])), (h1, .inl (cI, 2520, .inl g0)), (h2, .inl (cI, 2520, .inl g1)), (h3, .inl (cI, 2520, .inl f_27)), (h6, .inl (cI, 9, .inl g5))]) hD hS hA [0, 1, 2, 3, 4] rfl
      refine va_calli (va_runV (As := [.int x_28]) (rest := []) ⟨hx, hb, hml, hown, hts⟩ (c_s_X0_leaderOf l dC dI cB cI cJ cZ cP h0 h1 g0 h2 g1 h3 f_27 h4 h5 h6 g5 a0 (rg_mono h_2 (by decide) (by decide)) x_29 (rg_mono hx_29 (by decide) (by decide)) a2 (rg_mono ha2 (by decide) (by decide)) a3 x_28 H.size) (cwV 1 hts (gd_V (List.mem_of_getElem? (i := 20) rfl) (List.mem_of_getElem? (i := 21) rfl) (List.mem_of_getElem? (i := 22) rfl) (List.mem_of_getElem? (i := 19) rfl) (gd_mono k_s_X0_leaderOf (fun _ h => List.mem_cons_of_mem _ (List.mem_append_right _ (List.mem_append_right _ (List.mem_append_right _ (List.mem_append_right _ (List.mem_append_right _ (List.mem_append_left _ h))))))))) rfl rfl rfl (by decide +kernel) ⟨Nat.le_of_ble_eq_true rfl, Nat.le_of_ble_eq_true rfl⟩) ⟨fun a U g mk q => by obtain ⟨q0, q1, qP, qK, qD⟩ := q; exact ⟨q0, q1, qP, va_K.moved (u := U) (U := U.calling g mk a) (Vm.Alike.refl U.vm) qK, qD⟩, va_recv hK hPc (ci := 0) (q0 := 0) rfl rfl, fun U hU hW => ⟨rfl, by rw [hU], by rw [hU]; exact hPc, va_K.moved hW.alike hK, hDc.weaken (fun _ _ _ _ => trivial)⟩⟩ rfl rfl hl.1 rfl (lv_room (Nat.le_of_ble_eq_true rfl)) dX0_most_54 ⟨Nat.le_of_ble_eq_true rfl, Nat.le_of_ble_eq_true rfl⟩) hS (fun q _ h => hFc q h) hFc (fun r_56 u t H1 locs ht hvm hw hB hz1 hk1 hS => ?_)
      obtain ⟨x_57, f_58, hx_57, hP1, hD1⟩ := hB
      rw [ht] at hP1
      obtain ⟨hP, hD⟩ := va_join (wr := [(h7, .inr (3, [.ref h8, .int (-1)])), (h8, .inl (cI, 9, .inl g6))]) (w1 := [(h0, .inr (0, [.ref h1, .ref h2, .ref h3, .ref h4, .ref h5, .ref h6, .int a0, .int x_57, .int a2, .int a3])), (h1, .inl (cI, 2520, .inl g0)), (h2, .inl (cI, 2520, .inl g1)), (h3, .inl (cI, 2520, .inl f_58)), (h6, .inl (cI, 9, .inl g5))]) hP hD [0, 1, 2, 3, 4] [5, 6] rfl rfl (by decide) (by decide) hk1 hFc hP1 hD1
      generalize H1 = H at hP hS ⊢
      replace hP : va_P (dC, dI) vwCl [(h7, .inr (3, [.ref h8, .int (-1)])), (h8, .inl (cI, 9, .inl g6)), (h0, .inr (0, [.ref h1, .ref h2, .ref h3, .ref h4, .ref h5, .ref h6, .int a0, .int x_57, .int a2, .int a3])), (h1, .inl (cI, 2520, .inl g0)), (h2, .inl (cI, 2520, .inl g1)), (h3, .inl (cI, 2520, .inl f_58)), (h6, .inl (cI, 9, .inl g5))] H := hP
      replace hD : va_D A [(h7, .inr (3, [.ref h8, .int (-1)])), (h8, .inl (cI, 9, .inl g6)), (h0, .inr (0, [.ref h1, .ref h2, .ref h3, .ref h4, .ref h5, .ref h6, .int a0, .int x_57, .int a2, .int a3])), (h1, .inl (cI, 2520, .inl g0)), (h2, .inl (cI, 2520, .inl g1)), (h3, .inl (cI, 2520, .inl f_58)), (h6, .inl (cI, 9, .inl g5))] := hD
      have hr_56 : rg (-1) (2519) r_56 := hw
      refine lv_istore (lv' := [(5, .int r_56), (4, .int x_28), (3, .int x_8), (2, .int x_5), (0, .ref h0), (1, .ref h7)]) hx hb dX0_most_57 hl (by decide) rfl (fun ls hl => ?_)
      refine lv_iload hx hb dX0_most_59 (lv_at hl 0 rfl) ?_
      refine lv_iconst (v := (-1)) hx hb dX0_most_61 (by decide) ?_
      refine lv_icmp_eq (tgt := 80) hx hb dX0_most_62 (by decide) (fun c_59 => ?_) (fun c_59 => ?_)
      · skip
        have h_60 : rg (-1) (-1) r_56 := by have ha := hr_56; have hb_ := (rg_k (x := (-1)) (c := -1) (by decide)); simp only [rg, fa_lt, fa_le, fa_eq, (by decide : ((-1) : Int32).toInt = -1)] at ha hb_ c_59; simp only [rg]; omega
        obtain ⟨x_61, ex_61⟩ : ∃ y : Int32, y = x_28 + Int32.ofInt (-1) := ⟨_, rfl⟩
        have hx_61 : rg (1) (2) x_61 := by rw [ex_61]; exact rg_mono (rg_add h_55 (rg_k (x := Int32.ofInt (-1)) (c := -1) (by decide)) (by decide) (by decide)) (by decide) (by decide)
        have qx_61 : x_61.toInt = x_28.toInt + (-1) := by rw [ex_61]; exact rg_addE h_55 (rg_k (x := Int32.ofInt (-1)) (c := -1) (by decide)) (by decide) (by decide) (by decide)
        refine lv_iinc (v := x_61) (lv' := [(4, .int x_61), (5, .int r_56), (3, .int x_8), (2, .int x_5), (0, .ref h0), (1, .ref h7)]) hx hb dX0_most_80 hl (k := 1) rfl (ex_61.symm) (by decide) rfl (fun ls hl => ?_)
        clear ex_61
        refine lv_goto (tgt := 45) hx hb dX0_most_83 (by decide) ?_
        exact ih_48 (f_58, x_61, x_57) H locs ls ⟨hP.sub (ws' := [(h0, .inr (0, [.ref h1, .ref h2, .ref h3, .ref h4, .ref h5, .ref h6, .int a0, .int x_57, .int a2, .int a3])), (h1, .inl (cI, 2520, .inl g0)), (h2, .inl (cI, 2520, .inl g1)), (h3, .inl (cI, 2520, .inl f_58)), (h6, .inl (cI, 9, .inl g5)), (h7, .inr (3, [.ref h8, .int (-1)])), (h8, .inl (cI, 9, .inl g6))]) [2, 3, 4, 5, 6, 0, 1] rfl, hD.sub (ws' := [(h0, .inr (0, [.ref h1, .ref h2, .ref h3, .ref h4, .ref h5, .ref h6, .int a0, .int x_57, .int a2, .int a3])), (h1, .inl (cI, 2520, .inl g0)), (h2, .inl (cI, 2520, .inl g1)), (h3, .inl (cI, 2520, .inl f_58)), (h6, .inl (cI, 9, .inl g5)), (h7, .inr (3, [.ref h8, .int (-1)])), (h8, .inl (cI, 9, .inl g6))]) [2, 3, 4, 5, 6, 0, 1] (by decide) rfl, hS, lv_sub hl [0, 2, 3, 4, 5] rfl, (rg_mono hx_61 (by decide) (by decide)), (rg_mono hx_57 (by decide) (by decide))⟩ (by show (x_61.toInt - (1)).toNat < (x_28.toInt - (1)).toNat; have ha := h_55; simp only [rg] at ha; omega)
      · skip
        have h_62 : rg (0) (2519) r_56 := by have ha := hr_56; have hb_ := (rg_k (x := (-1)) (c := -1) (by decide)); simp only [rg, fa_lt, fa_le, fa_eq, (by decide : ((-1) : Int32).toInt = -1)] at ha hb_ c_59; simp only [rg]; omega
        refine lv_aload_n hx hb dX0_most_65 rfl (lv_at hl 4 rfl) ?_
        refine lv_aload_n hx hb dX0_most_66 rfl (lv_at hl 4 rfl) ?_
        refine va_get (D := (dC, dI)) (ci := 0) (v := .ref h2) (C := RX0) (T := TX0) (N := 10) hx hb hts hinX0 hown hK hP 2 rfl rfl 1 (by decide) (hts (.fieldLink RX0 15 "MayRings$Families" "orders" "[I") (List.mem_of_getElem? (i := 15) rfl)) (fun _ h9 => h9) rfl dX0_most_67 ?_
        refine lv_iload hx hb dX0_most_70 (lv_at hl 0 rfl) ?_
        refine va_iald hx hb hK hP 4 1 rfl rfl (rg_in (n := 2520) (rg_mono h_62 (by decide) (by decide))) dX0_most_72 ?_
        refine lv_topi (fun x_63 ex_63 => ?_)
        refine lv_aload_n hx hb dX0_most_73 rfl (lv_at hl 5 rfl) ?_
        have hPc := hP.sub (ws' := [(h0, .inr (0, [.ref h1, .ref h2, .ref h3, .ref h4, .ref h5, .ref h6, .int a0, .int x_57, .int a2, .int a3])), (h7, .inr (3, [.ref h8, .int (-1)])), (h8, .inl (cI, 9, .inl g6))]) [2, 0, 1] rfl
        have hDc := hD.sub (ws' := [(h0, .inr (0, [.ref h1, .ref h2, .ref h3, .ref h4, .ref h5, .ref h6, .int a0, .int x_57, .int a2, .int a3])), (h7, .inr (3, [.ref h8, .int (-1)])), (h8, .inl (cI, 9, .inl g6))]) [2, 0, 1] (by decide) rfl
        have hFc := va_free (wc := [(h0, .inr (0, [.ref h1, .ref h2, .ref h3, .ref h4, .ref h5, .ref h6, .int a0, .int x_57, .int a2, .int a3])), (h7, .inr (3, [.ref h8, .int (-1)])), (h8, .inl (cI, 9, .inl g6))]) hD hS hA [2, 0, 1] rfl
        refine va_callv (va_runV (As := [.int x_63, .ref h7]) (rest := []) ⟨hx, hb, hml, hown, hts⟩ (c_s_X0_unpack l dC dI cB cI cJ cZ cP h0 h1 h2 h3 h4 h5 h6 a0 x_57 a2 (rg_mono ha2 (by decide) (by decide)) a3 x_63 h7 h8 g6 hg6 ((-1)) (show nb x_63 from (by rw [ex_63]; exact kr0 _)) H.size) (cwV 2 hts (gd_V (List.mem_of_getElem? (i := 16) rfl) (List.mem_of_getElem? (i := 17) rfl) (List.mem_of_getElem? (i := 18) rfl) (List.mem_of_getElem? (i := 19) rfl) (gd_mono k_s_X0_unpack (fun _ h => List.mem_cons_of_mem _ (List.mem_append_right _ (List.mem_append_right _ (List.mem_append_right _ (List.mem_append_right _ (List.mem_append_left _ h)))))))) rfl rfl rfl (by decide +kernel) ⟨Nat.le_of_ble_eq_true rfl, Nat.le_of_ble_eq_true rfl⟩) ⟨fun a U g mk q => by obtain ⟨q0, q1, qP, qK, qD⟩ := q; exact ⟨q0, q1, qP, va_K.moved (u := U) (U := U.calling g mk a) (Vm.Alike.refl U.vm) qK, qD⟩, va_recv hK hPc (ci := 0) (q0 := 0) rfl rfl, fun U hU hW => ⟨rfl, by rw [hU], by rw [hU]; exact hPc, va_K.moved hW.alike hK, hDc.weaken (fun _ _ _ _ => trivial)⟩⟩ rfl rfl hl.1 rfl (lv_room (Nat.le_of_ble_eq_true rfl)) dX0_most_74 ⟨Nat.le_of_ble_eq_true rfl, Nat.le_of_ble_eq_true rfl⟩) hS (fun q _ h => hFc q h) hFc (fun u t H1 locs ht hvm hw hB hz1 hk1 hS => ?_)
        obtain ⟨x_65, f_66, hx_65, hf_66, hP1, hD1⟩ := hB
        rw [ht] at hP1
        obtain ⟨hP, hD⟩ := va_join (wr := [(h1, .inl (cI, 2520, .inl g0)), (h2, .inl (cI, 2520, .inl g1)), (h3, .inl (cI, 2520, .inl f_58)), (h6, .inl (cI, 9, .inl g5))]) (w1 := [(h0, .inr (0, [.ref h1, .ref h2, .ref h3, .ref h4, .ref h5, .ref h6, .int a0, .int x_57, .int a2, .int a3])), (h7, .inr (3, [.ref h8, .int x_65])), (h8, .inl (cI, 9, .inl f_66))]) hP hD [2, 0, 1] [3, 4, 5, 6] rfl rfl (by decide) (by decide) hk1 hFc hP1 hD1
        generalize H1 = H at hP hS ⊢
        replace hP : va_P (dC, dI) vwCl [(h1, .inl (cI, 2520, .inl g0)), (h2, .inl (cI, 2520, .inl g1)), (h3, .inl (cI, 2520, .inl f_58)), (h6, .inl (cI, 9, .inl g5)), (h0, .inr (0, [.ref h1, .ref h2, .ref h3, .ref h4, .ref h5, .ref h6, .int a0, .int x_57, .int a2, .int a3])), (h7, .inr (3, [.ref h8, .int x_65])), (h8, .inl (cI, 9, .inl f_66))] H := hP
        replace hD : va_D A [(h1, .inl (cI, 2520, .inl g0)), (h2, .inl (cI, 2520, .inl g1)), (h3, .inl (cI, 2520, .inl f_58)), (h6, .inl (cI, 9, .inl g5)), (h0, .inr (0, [.ref h1, .ref h2, .ref h3, .ref h4, .ref h5, .ref h6, .int a0, .int x_57, .int a2, .int a3])), (h7, .inr (3, [.ref h8, .int x_65])), (h8, .inl (cI, 9, .inl f_66))] := hD
        refine lv_iload hx hb dX0_most_77 (lv_at hl 1 rfl) ?_
        have hP9 := hP.sub (ws' := [(h0, .inr (0, [.ref h1, .ref h2, .ref h3, .ref h4, .ref h5, .ref h6, .int a0, .int x_57, .int a2, .int a3])), (h1, .inl (cI, 2520, .inl g0)), (h2, .inl (cI, 2520, .inl g1)), (h3, .inl (cI, 2520, .inl f_58)), (h6, .inl (cI, 9, .inl g5)), (h7, .inr (3, [.ref h8, .int x_65])), (h8, .inl (cI, 9, .inl f_66))]) [4, 0, 1, 2, 3, 5, 6] rfl
        have hD9 := hD.sub (ws' := [(h0, .inr (0, [.ref h1, .ref h2, .ref h3, .ref h4, .ref h5, .ref h6, .int a0, .int x_57, .int a2, .int a3])), (h1, .inl (cI, 2520, .inl g0)), (h2, .inl (cI, 2520, .inl g1)), (h3, .inl (cI, 2520, .inl f_58)), (h6, .inl (cI, 9, .inl g5)), (h7, .inr (3, [.ref h8, .int x_65])), (h8, .inl (cI, 9, .inl f_66))]) [4, 0, 1, 2, 3, 5, 6] (by decide) rfl
        exact W.iret (v := x_28) hx hb hr (fun t ht hW => ⟨⟨x_28, (), rfl, (rg_mono h_55 (by decide) (by decide)), ⟨x_57, f_58, x_65, f_66, (rg_mono hx_57 (by decide) (by decide)), (rg_mono hx_65 (by decide) (by decide)), hf_66, by rw [ht]; exact hP9, hD9⟩⟩, hS.F ht⟩) hS.2.2 dX0_most_79
  · skip
    have h_67 : rg (0) (0) a0 := by have ha := ha0; have hb_ := (rg_k (x := 0) (c := 0) (by decide)); simp only [rg, fa_lt, fa_le, fa_eq, (by decide : (0 : Int32).toInt = 0)] at ha hb_ c_1; simp only [rg]; omega
    refine lv_iconst (v := 0) hx hb dX0_most_12 (by decide) ?_
    have hP9 := hP.sub (ws' := [(h0, .inr (0, [.ref h1, .ref h2, .ref h3, .ref h4, .ref h5, .ref h6, .int a0, .int a1, .int a2, .int a3])), (h1, .inl (cI, 2520, .inl g0)), (h2, .inl (cI, 2520, .inl g1)), (h3, .inl (cI, 2520, .inl g2)), (h6, .inl (cI, 9, .inl g5)), (h7, .inr (3, [.ref h8, .int (-1)])), (h8, .inl (cI, 9, .inl g6))]) [0, 1, 2, 3, 4, 5, 6] rfl
    have hD9 := hD.sub (ws' := [(h0, .inr (0, [.ref h1, .ref h2, .ref h3, .ref h4, .ref h5, .ref h6, .int a0, .int a1, .int a2, .int a3])), (h1, .inl (cI, 2520, .inl g0)), (h2, .inl (cI, 2520, .inl g1)), (h3, .inl (cI, 2520, .inl g2)), (h6, .inl (cI, 9, .inl g5)), (h7, .inr (3, [.ref h8, .int (-1)])), (h8, .inl (cI, 9, .inl g6))]) [0, 1, 2, 3, 4, 5, 6] (by decide) rfl
    exact W.iret (v := 0) hx hb hr (fun t ht hW => ⟨⟨0, (), rfl, (rg_mono (rg_k (x := 0) (c := 0) (by decide)) (by decide) (by decide)), ⟨a1, g2, (-1), g6, (rg_mono ha1 (by decide) (by decide)), (rg_mono (rg_k (x := (-1)) (c := -1) (by decide)) (by decide) (by decide)), hg6, by rw [ht]; exact hP9, hD9⟩⟩, hS.F ht⟩) hS.2.2 dX0_most_13
def v_s_X1_open : List Cond := Cond.code yX1_open cX1_open 1 none :: ([Cond.fieldLink RX1 21 "MayRings$Law" "length" "I", Cond.fieldLink RX1 28 "MayRings$Law" "units" "I"] ++ (wsX10 ++ ([])))
theorem k_s_X1_open : GoodIn lw_tbl v_s_X1_open := gd_c (List.mem_of_getElem? (i := 690) (by decide +kernel)) rfl (goodIn_app (gd_c (List.mem_of_getElem? (i := 186) (by decide +kernel)) rfl (gd_c (List.mem_of_getElem? (i := 188) (by decide +kernel)) rfl (gd_nil))) (goodIn_app kfX1 (gd_nil)))
set_option maxHeartbeats 2000000 in
set_option maxRecDepth 100000 in
theorem c_s_X1_open (l : Launch) (dC : Nat → ClassId) (dI : Nat → Nat → Nat) (cB cI cJ cZ cP : ClassId) (h0 : Nat) (h1 : Nat) (h2 : Nat) (h3 : Nat) (a0 : Int32) (a1 : Int32) (a2 : Int32) (sz : Nat) : Met l yX1_open v_s_X1_open ({ frames := 0, cells := 0, slots := 0, locals := 0 }) (va_Pc [.ref h0] (fun U => U.heap.size = sz ∧ va_P (dC, dI) vwCl [(h0, .inr (1, [.ref h1, .ref h2, .ref h3, .int a0, .int a1, .int a2]))] U.heap ∧ va_K (dC, dI) vwCl (ty5 cB cI cJ cZ cP) U ∧ va_D (fun _ => True) [(h0, .inr (1, [.ref h1, .ref h2, .ref h3, .int a0, .int a1, .int a2]))])) (va_Qv (fun _ : Unit => True) (fun _ t => va_P (dC, dI) vwCl [(h0, .inr (1, [.ref h1, .ref h2, .ref h3, .int 0, .int a1, .int 0]))] t.heap ∧ va_D (va_A [(h0, .inr (1, [.ref h1, .ref h2, .ref h3, .int a0, .int a1, .int a2]))] sz) [(h0, .inr (1, [.ref h1, .ref h2, .ref h3, .int 0, .int a1, .int 0]))]) (va_A [(h0, .inr (1, [.ref h1, .ref h2, .ref h3, .int a0, .int a1, .int a2]))] sz)) 0 0 (va_A [(h0, .inr (1, [.ref h1, .ref h2, .ref h3, .int a0, .int a1, .int a2]))] sz) := by
  refine Met.ofW (cc := cX1_open) (maxL := 1) (ret := none) (by decide) rfl ?_
  intro p e s m args below meth c s₁ B hml hv
  obtain ⟨rfl, hsz, hP, hK, hD0⟩ := hv
  have hx := B.exec
  have hb := B.bytes
  have hr := B.returns
  have hts := atoms_spec (ws := v_s_X1_open) B.pre
  have hown : s.vm.findClass RX1 = some m.cls := findClass_of_methodNamed B.named
  have hlocks := B.notSynchronized
  have hinX1 : ∀ w ∈ wsX10, w ∈ v_s_X1_open := fun _ h => List.mem_cons_of_mem _ (List.mem_append_right _ (List.mem_append_left _ h))
  subst hsz
  have hD := hD0.self (sz := s.heap.size)
  generalize hAe : va_A [(h0, .inr (1, [.ref h1, .ref h2, .ref h3, .int a0, .int a1, .int a2]))] s.heap.size = A at hD ⊢
  have hA : ∀ q : Nat, s.heap.size ≤ q → A q := fun q h => by rw [← hAe]; exact Or.inr h
  have hP : va_P (dC, dI) vwCl [(h0, .inr (1, [.ref h1, .ref h2, .ref h3, .int a0, .int a1, .int a2]))] s.heap := hP
  have hl := lv_entry ([.ref h0]) (n := 1) (Nat.le_of_ble_eq_true rfl)
  rw [lg_entry_eq]
  generalize (lg_sl ([.ref h0]) ++ List.replicate (1 - (lg_sl ([.ref h0])).length) Slot.unset).toArray = ls at hl ⊢
  have hl : lv_has ls 1 [(0, .ref h0)] := hl
  refine W_gen (A := A) hP (fun H locs hP hS => ?_)
  refine lv_aload_n hx hb dX1_open_0 rfl (lv_at hl 0 rfl) ?_
  refine lv_iconst (v := 0) hx hb dX1_open_1 (by decide) ?_
  refine va_put (D := (dC, dI)) (ci := 1) (v := .int 0) (ty := .int) (C := RX1) (T := TX1) (N := 6) hx hb hts hinX1 tyX1 tyX1_ok nmX1 hown hK hP hD hS 0 rfl rfl 3 (by decide) (hts (.fieldLink RX1 21 "MayRings$Law" "length" "I") (List.mem_of_getElem? (i := 1) rfl)) (fun _ h9 => h9) rfl (by decide +kernel) (rfl) (rfl) (Nat.le_of_ble_eq_true rfl) dX1_open_2 (fun H locs hP hD hS => ?_)
  replace hP : va_P (dC, dI) vwCl [(h0, .inr (1, [.ref h1, .ref h2, .ref h3, .int 0, .int a1, .int a2]))] H := hP
  replace hD : va_D A [(h0, .inr (1, [.ref h1, .ref h2, .ref h3, .int 0, .int a1, .int a2]))] := hD
  refine lv_aload_n hx hb dX1_open_5 rfl (lv_at hl 0 rfl) ?_
  refine lv_iconst (v := 0) hx hb dX1_open_6 (by decide) ?_
  refine va_put (D := (dC, dI)) (ci := 1) (v := .int 0) (ty := .int) (C := RX1) (T := TX1) (N := 6) hx hb hts hinX1 tyX1 tyX1_ok nmX1 hown hK hP hD hS 0 rfl rfl 5 (by decide) (hts (.fieldLink RX1 28 "MayRings$Law" "units" "I") (List.mem_of_getElem? (i := 2) rfl)) (fun _ h9 => h9) rfl (by decide +kernel) (rfl) (rfl) (Nat.le_of_ble_eq_true rfl) dX1_open_7 (fun H locs hP hD hS => ?_)
  replace hP : va_P (dC, dI) vwCl [(h0, .inr (1, [.ref h1, .ref h2, .ref h3, .int 0, .int a1, .int 0]))] H := hP
  replace hD : va_D A [(h0, .inr (1, [.ref h1, .ref h2, .ref h3, .int 0, .int a1, .int 0]))] := hD
  have hP9 := hP.sub (ws' := [(h0, .inr (1, [.ref h1, .ref h2, .ref h3, .int 0, .int a1, .int 0]))]) [0] rfl
  have hD9 := hD.sub (ws' := [(h0, .inr (1, [.ref h1, .ref h2, .ref h3, .int 0, .int a1, .int 0]))]) [0] (by decide) rfl
  exact W.vret hx hb hr (fun t ht hW => ⟨⟨(), rfl, trivial, ⟨by rw [ht]; exact hP9, hD9⟩⟩, hS.F ht⟩) hS.2.2 dX1_open_10
def v_s_X1_put : List Cond := Cond.code yX1_put cX1_put 2 none :: ([Cond.fieldLink RX1 21 "MayRings$Law" "length" "I", Cond.fieldLink RX1 11 "MayRings$Law" "codes" "[I"] ++ (wsX10 ++ ([])))
theorem k_s_X1_put : GoodIn lw_tbl v_s_X1_put := gd_c (List.mem_of_getElem? (i := 182) (by decide +kernel)) rfl (goodIn_app (gd_c (List.mem_of_getElem? (i := 186) (by decide +kernel)) rfl (gd_c (List.mem_of_getElem? (i := 183) (by decide +kernel)) rfl (gd_nil))) (goodIn_app kfX1 (gd_nil)))
set_option maxHeartbeats 2000000 in
set_option maxRecDepth 100000 in
theorem c_s_X1_put (l : Launch) (dC : Nat → ClassId) (dI : Nat → Nat → Nat) (cB cI cJ cZ cP : ClassId) (h0 : Nat) (h1 : Nat) (g0 : Nat → Int32) (h2 : Nat) (h3 : Nat) (a0 : Int32) (ha0 : rg (0) (360) a0) (a1 : Int32) (a2 : Int32) (p0 : Int32) (sz : Nat) : Met l yX1_put v_s_X1_put ({ frames := 0, cells := 0, slots := 0, locals := 0 }) (va_Pc [.ref h0, .int p0] (fun U => U.heap.size = sz ∧ va_P (dC, dI) vwCl [(h0, .inr (1, [.ref h1, .ref h2, .ref h3, .int a0, .int a1, .int a2])), (h1, .inl (cI, 360, .inl g0))] U.heap ∧ va_K (dC, dI) vwCl (ty5 cB cI cJ cZ cP) U ∧ va_D (fun _ => True) [(h0, .inr (1, [.ref h1, .ref h2, .ref h3, .int a0, .int a1, .int a2])), (h1, .inl (cI, 360, .inl g0))])) (va_Qv (fun _ : Unit => True) (fun _ t => ∃ (z0 : Int32) (z1 : Nat → Int32), rg (0) (360) z0 ∧ va_P (dC, dI) vwCl [(h0, .inr (1, [.ref h1, .ref h2, .ref h3, .int z0, .int a1, .int a2])), (h1, .inl (cI, 360, .inl z1))] t.heap ∧ va_D (va_A [(h0, .inr (1, [.ref h1, .ref h2, .ref h3, .int a0, .int a1, .int a2])), (h1, .inl (cI, 360, .inl g0))] sz) [(h0, .inr (1, [.ref h1, .ref h2, .ref h3, .int z0, .int a1, .int a2])), (h1, .inl (cI, 360, .inl z1))]) (va_A [(h0, .inr (1, [.ref h1, .ref h2, .ref h3, .int a0, .int a1, .int a2])), (h1, .inl (cI, 360, .inl g0))] sz)) 0 0 (va_A [(h0, .inr (1, [.ref h1, .ref h2, .ref h3, .int a0, .int a1, .int a2])), (h1, .inl (cI, 360, .inl g0))] sz) := by
  refine Met.ofW (cc := cX1_put) (maxL := 2) (ret := none) (by decide) rfl ?_
  intro p e s m args below meth c s₁ B hml hv
  obtain ⟨rfl, hsz, hP, hK, hD0⟩ := hv
  have hx := B.exec
  have hb := B.bytes
  have hr := B.returns
  have hts := atoms_spec (ws := v_s_X1_put) B.pre
  have hown : s.vm.findClass RX1 = some m.cls := findClass_of_methodNamed B.named
  have hlocks := B.notSynchronized
  have hinX1 : ∀ w ∈ wsX10, w ∈ v_s_X1_put := fun _ h => List.mem_cons_of_mem _ (List.mem_append_right _ (List.mem_append_left _ h))
  subst hsz
  have hD := hD0.self (sz := s.heap.size)
  generalize hAe : va_A [(h0, .inr (1, [.ref h1, .ref h2, .ref h3, .int a0, .int a1, .int a2])), (h1, .inl (cI, 360, .inl g0))] s.heap.size = A at hD ⊢
  have hA : ∀ q : Nat, s.heap.size ≤ q → A q := fun q h => by rw [← hAe]; exact Or.inr h
  have hP : va_P (dC, dI) vwCl [(h0, .inr (1, [.ref h1, .ref h2, .ref h3, .int a0, .int a1, .int a2])), (h1, .inl (cI, 360, .inl g0))] s.heap := hP
  have hl := lv_entry ([.ref h0, .int p0]) (n := 2) (Nat.le_of_ble_eq_true rfl)
  rw [lg_entry_eq]
  generalize (lg_sl ([.ref h0, .int p0]) ++ List.replicate (2 - (lg_sl ([.ref h0, .int p0])).length) Slot.unset).toArray = ls at hl ⊢
  have hl : lv_has ls 2 [(0, .ref h0), (1, .int p0)] := hl
  refine W_gen (A := A) hP (fun H locs hP hS => ?_)
  refine lv_aload_n hx hb dX1_put_0 rfl (lv_at hl 0 rfl) ?_
  refine va_get (D := (dC, dI)) (ci := 1) (v := .int a0) (C := RX1) (T := TX1) (N := 6) hx hb hts hinX1 hown hK hP 0 rfl rfl 3 (by decide) (hts (.fieldLink RX1 21 "MayRings$Law" "length" "I") (List.mem_of_getElem? (i := 1) rfl)) (fun _ h9 => h9) rfl dX1_put_1 ?_
  refine lv_sipush (v := 360) hx hb dX1_put_4 (by decide) ?_
  refine lv_icmp_ge (tgt := 30) hx hb dX1_put_7 (by decide) (fun c_1 => ?_) (fun c_1 => ?_)
  · skip
    have h_2 : rg (360) (360) a0 := by have ha := ha0; have hb_ := (rg_k (x := 360) (c := 360) (by decide)); simp only [rg, fa_lt, fa_le, fa_eq, (by decide : (360 : Int32).toInt = 360)] at ha hb_ c_1; simp only [rg]; omega
    have hP9 := hP.sub (ws' := [(h0, .inr (1, [.ref h1, .ref h2, .ref h3, .int a0, .int a1, .int a2])), (h1, .inl (cI, 360, .inl g0))]) [0, 1] rfl
    have hD9 := hD.sub (ws' := [(h0, .inr (1, [.ref h1, .ref h2, .ref h3, .int a0, .int a1, .int a2])), (h1, .inl (cI, 360, .inl g0))]) [0, 1] (by decide) rfl
    exact W.vret hx hb hr (fun t ht hW => ⟨⟨(), rfl, trivial, ⟨a0, g0, (rg_mono h_2 (by decide) (by decide)), by rw [ht]; exact hP9, hD9⟩⟩, hS.F ht⟩) hS.2.2 dX1_put_30
  · skip
    have h_3 : rg (0) (359) a0 := by have ha := ha0; have hb_ := (rg_k (x := 360) (c := 360) (by decide)); simp only [rg, fa_lt, fa_le, fa_eq, (by decide : (360 : Int32).toInt = 360)] at ha hb_ c_1; simp only [rg]; omega
    refine lv_aload_n hx hb dX1_put_10 rfl (lv_at hl 0 rfl) ?_
    refine va_get (D := (dC, dI)) (ci := 1) (v := .ref h1) (C := RX1) (T := TX1) (N := 6) hx hb hts hinX1 hown hK hP 0 rfl rfl 0 (by decide) (hts (.fieldLink RX1 11 "MayRings$Law" "codes" "[I") (List.mem_of_getElem? (i := 2) rfl)) (fun _ h9 => h9) rfl dX1_put_11 ?_
    refine lv_aload_n hx hb dX1_put_14 rfl (lv_at hl 0 rfl) ?_
    refine va_get (D := (dC, dI)) (ci := 1) (v := .int a0) (C := RX1) (T := TX1) (N := 6) hx hb hts hinX1 hown hK hP 0 rfl rfl 3 (by decide) (hts (.fieldLink RX1 21 "MayRings$Law" "length" "I") (List.mem_of_getElem? (i := 1) rfl)) (fun _ h9 => h9) rfl dX1_put_15 ?_
    refine lv_iload_n hx hb dX1_put_18 rfl (lv_at hl 1 rfl) ?_
    refine va_iast hx hb hK hP hD hS 1 1 rfl rfl (rg_in (n := 360) (rg_mono h_3 (by decide) (by decide))) dX1_put_19 (fun H locs hP hD hS => ?_)
    obtain ⟨f_4, ef_4⟩ : ∃ f : Nat → Int32, f = upd g0 (a0 : Int32).toNatClampNeg p0 := ⟨_, rfl⟩
    rw [← ef_4] at hP hD
    clear ef_4
    replace hP : va_P (dC, dI) vwCl [(h0, .inr (1, [.ref h1, .ref h2, .ref h3, .int a0, .int a1, .int a2])), (h1, .inl (cI, 360, .inl f_4))] H := hP
    replace hD : va_D A [(h0, .inr (1, [.ref h1, .ref h2, .ref h3, .int a0, .int a1, .int a2])), (h1, .inl (cI, 360, .inl f_4))] := hD
    refine lv_aload_n hx hb dX1_put_20 rfl (lv_at hl 0 rfl) ?_
    refine lv_dup hx hb dX1_put_21 rfl ?_
    refine va_get (D := (dC, dI)) (ci := 1) (v := .int a0) (C := RX1) (T := TX1) (N := 6) hx hb hts hinX1 hown hK hP 0 rfl rfl 3 (by decide) (hts (.fieldLink RX1 21 "MayRings$Law" "length" "I") (List.mem_of_getElem? (i := 1) rfl)) (fun _ h9 => h9) rfl dX1_put_22 ?_
    refine lv_iconst (v := 1) hx hb dX1_put_25 (by decide) ?_
    refine lv_iadd hx hb dX1_put_26 ?_
    refine lv_topi (fun x_5 ex_5 => ?_)
    have hx_5 : rg (1) (360) x_5 := by rw [ex_5]; exact rg_mono (rg_add h_3 (rg_k (x := 1) (c := 1) (by decide)) (by decide) (by decide)) (by decide) (by decide)
    have qx_5 : x_5.toInt = a0.toInt + (1) := by rw [ex_5]; exact rg_addE h_3 (rg_k (x := 1) (c := 1) (by decide)) (by decide) (by decide) trivial
    refine va_put (D := (dC, dI)) (ci := 1) (v := .int x_5) (ty := .int) (C := RX1) (T := TX1) (N := 6) hx hb hts hinX1 tyX1 tyX1_ok nmX1 hown hK hP hD hS 0 rfl rfl 3 (by decide) (hts (.fieldLink RX1 21 "MayRings$Law" "length" "I") (List.mem_of_getElem? (i := 1) rfl)) (fun _ h9 => h9) rfl (by decide +kernel) (rfl) (rfl) (Nat.le_of_ble_eq_true rfl) dX1_put_27 (fun H locs hP hD hS => ?_)
    replace hP : va_P (dC, dI) vwCl [(h0, .inr (1, [.ref h1, .ref h2, .ref h3, .int x_5, .int a1, .int a2])), (h1, .inl (cI, 360, .inl f_4))] H := hP
    replace hD : va_D A [(h0, .inr (1, [.ref h1, .ref h2, .ref h3, .int x_5, .int a1, .int a2])), (h1, .inl (cI, 360, .inl f_4))] := hD
    have hP9 := hP.sub (ws' := [(h0, .inr (1, [.ref h1, .ref h2, .ref h3, .int x_5, .int a1, .int a2])), (h1, .inl (cI, 360, .inl f_4))]) [0, 1] rfl
    have hD9 := hD.sub (ws' := [(h0, .inr (1, [.ref h1, .ref h2, .ref h3, .int x_5, .int a1, .int a2])), (h1, .inl (cI, 360, .inl f_4))]) [0, 1] (by decide) rfl
    exact W.vret hx hb hr (fun t ht hW => ⟨⟨(), rfl, trivial, ⟨x_5, f_4, (rg_mono hx_5 (by decide) (by decide)), by rw [ht]; exact hP9, hD9⟩⟩, hS.F ht⟩) hS.2.2 dX1_put_30
def v_s_X1_putSinceNever : List Cond := Cond.code yX1_putSinceNever cX1_putSinceNever 1 none :: ([Cond.methodLink RX1 34 yX1_put, Cond.instanceMethod yX1_put, Cond.selects RX1 yX1_put yX1_put, Cond.initialized RX1] ++ (v_s_X1_put ++ ([])))
theorem k_s_X1_putSinceNever : GoodIn lw_tbl v_s_X1_putSinceNever := gd_c (List.mem_of_getElem? (i := 178) (by decide +kernel)) rfl (goodIn_app (gd_c (List.mem_of_getElem? (i := 179) (by decide +kernel)) rfl (gd_c (List.mem_of_getElem? (i := 180) (by decide +kernel)) rfl (gd_c (List.mem_of_getElem? (i := 181) (by decide +kernel)) rfl (gd_c (List.mem_of_getElem? (i := 133) (by decide +kernel)) rfl (gd_nil))))) (goodIn_app k_s_X1_put (gd_nil)))
set_option maxHeartbeats 2000000 in
set_option maxRecDepth 100000 in
theorem c_s_X1_putSinceNever (l : Launch) (dC : Nat → ClassId) (dI : Nat → Nat → Nat) (cB cI cJ cZ cP : ClassId) (h0 : Nat) (h1 : Nat) (g0 : Nat → Int32) (h2 : Nat) (h3 : Nat) (a0 : Int32) (ha0 : rg (0) (360) a0) (a1 : Int32) (a2 : Int32) (sz : Nat) : Met l yX1_putSinceNever v_s_X1_putSinceNever ({ frames := 1, cells := 0, slots := 0, locals := 21 }) (va_Pc [.ref h0] (fun U => U.heap.size = sz ∧ va_P (dC, dI) vwCl [(h0, .inr (1, [.ref h1, .ref h2, .ref h3, .int a0, .int a1, .int a2])), (h1, .inl (cI, 360, .inl g0))] U.heap ∧ va_K (dC, dI) vwCl (ty5 cB cI cJ cZ cP) U ∧ va_D (fun _ => True) [(h0, .inr (1, [.ref h1, .ref h2, .ref h3, .int a0, .int a1, .int a2])), (h1, .inl (cI, 360, .inl g0))])) (va_Qv (fun _ : Unit => True) (fun _ t => ∃ (z0 : Int32) (z1 : Nat → Int32), rg (0) (360) z0 ∧ va_P (dC, dI) vwCl [(h0, .inr (1, [.ref h1, .ref h2, .ref h3, .int z0, .int a1, .int a2])), (h1, .inl (cI, 360, .inl z1))] t.heap ∧ va_D (va_A [(h0, .inr (1, [.ref h1, .ref h2, .ref h3, .int a0, .int a1, .int a2])), (h1, .inl (cI, 360, .inl g0))] sz) [(h0, .inr (1, [.ref h1, .ref h2, .ref h3, .int z0, .int a1, .int a2])), (h1, .inl (cI, 360, .inl z1))]) (va_A [(h0, .inr (1, [.ref h1, .ref h2, .ref h3, .int a0, .int a1, .int a2])), (h1, .inl (cI, 360, .inl g0))] sz)) 0 0 (va_A [(h0, .inr (1, [.ref h1, .ref h2, .ref h3, .int a0, .int a1, .int a2])), (h1, .inl (cI, 360, .inl g0))] sz) := by
  refine Met.ofW (cc := cX1_putSinceNever) (maxL := 1) (ret := none) (by decide) rfl ?_
  intro p e s m args below meth c s₁ B hml hv
  obtain ⟨rfl, hsz, hP, hK, hD0⟩ := hv
  have hx := B.exec
  have hb := B.bytes
  have hr := B.returns
  have hts := atoms_spec (ws := v_s_X1_putSinceNever) B.pre
  have hown : s.vm.findClass RX1 = some m.cls := findClass_of_methodNamed B.named
  have hlocks := B.notSynchronized
  subst hsz
  have hD := hD0.self (sz := s.heap.size)
  generalize hAe : va_A [(h0, .inr (1, [.ref h1, .ref h2, .ref h3, .int a0, .int a1, .int a2])), (h1, .inl (cI, 360, .inl g0))] s.heap.size = A at hD ⊢
  have hA : ∀ q : Nat, s.heap.size ≤ q → A q := fun q h => by rw [← hAe]; exact Or.inr h
  have hP : va_P (dC, dI) vwCl [(h0, .inr (1, [.ref h1, .ref h2, .ref h3, .int a0, .int a1, .int a2])), (h1, .inl (cI, 360, .inl g0))] s.heap := hP
  have hl := lv_entry ([.ref h0]) (n := 1) (Nat.le_of_ble_eq_true rfl)
  rw [lg_entry_eq]
  generalize (lg_sl ([.ref h0]) ++ List.replicate (1 - (lg_sl ([.ref h0])).length) Slot.unset).toArray = ls at hl ⊢
  have hl : lv_has ls 1 [(0, .ref h0)] := hl
  refine W_gen (A := A) hP (fun H locs hP hS => ?_)
  refine lv_aload_n hx hb dX1_putSinceNever_0 rfl (lv_at hl 0 rfl) ?_
  refine lv_bipush (v := (-14)) hx hb dX1_putSinceNever_1 (by decide) ?_
  have hPc := hP.sub (ws' := [(h0, .inr (1, [.ref h1, .ref h2, .ref h3, .int a0, .int a1, .int a2])), (h1, .inl (cI, 360, .inl g0))]) [0, 1] rfl
  have hDc := hD.sub (ws' := [(h0, .inr (1, [.ref h1, .ref h2, .ref h3, .int a0, .int a1, .int a2])), (h1, .inl (cI, 360, .inl g0))]) [0, 1] (by decide) rfl
  have hFc := va_free (wc := [(h0, .inr (1, [.ref h1, .ref h2, .ref h3, .int a0, .int a1, .int a2])), (h1, .inl (cI, 360, .inl g0))]) hD hS hA [0, 1] rfl
  refine va_callv (va_runV (As := [.int (-14)]) (rest := []) ⟨hx, hb, hml, hown, hts⟩ (c_s_X1_put l dC dI cB cI cJ cZ cP h0 h1 g0 h2 h3 a0 (rg_mono ha0 (by decide) (by decide)) a1 a2 ((-14)) H.size) (cwV 1 hts (gd_V (List.mem_of_getElem? (i := 1) rfl) (List.mem_of_getElem? (i := 2) rfl) (List.mem_of_getElem? (i := 3) rfl) (List.mem_of_getElem? (i := 4) rfl) (gd_mono k_s_X1_put (fun _ h => List.mem_cons_of_mem _ (List.mem_append_right _ (List.mem_append_left _ h))))) rfl rfl rfl (by decide +kernel) ⟨Nat.le_of_ble_eq_true rfl, Nat.le_of_ble_eq_true rfl⟩) ⟨fun a U g mk q => by obtain ⟨q0, q1, qP, qK, qD⟩ := q; exact ⟨q0, q1, qP, va_K.moved (u := U) (U := U.calling g mk a) (Vm.Alike.refl U.vm) qK, qD⟩, va_recv hK hPc (ci := 1) (q0 := 0) rfl rfl, fun U hU hW => ⟨rfl, by rw [hU], by rw [hU]; exact hPc, va_K.moved hW.alike hK, hDc.weaken (fun _ _ _ _ => trivial)⟩⟩ rfl rfl hl.1 rfl (lv_room (Nat.le_of_ble_eq_true rfl)) dX1_putSinceNever_3 ⟨Nat.le_of_ble_eq_true rfl, Nat.le_of_ble_eq_true rfl⟩) hS (fun q _ h => hFc q h) hFc (fun u t H1 locs ht hvm hw hB hz1 hk1 hS => ?_)
  obtain ⟨x_2, f_3, hx_2, hP1, hD1⟩ := hB
  rw [ht] at hP1
  obtain ⟨hP, hD⟩ := va_join (wr := []) (w1 := [(h0, .inr (1, [.ref h1, .ref h2, .ref h3, .int x_2, .int a1, .int a2])), (h1, .inl (cI, 360, .inl f_3))]) hP hD [0, 1] [] rfl rfl (by decide) (by decide) hk1 hFc hP1 hD1
  generalize H1 = H at hP hS ⊢
  replace hP : va_P (dC, dI) vwCl [(h0, .inr (1, [.ref h1, .ref h2, .ref h3, .int x_2, .int a1, .int a2])), (h1, .inl (cI, 360, .inl f_3))] H := hP
  replace hD : va_D A [(h0, .inr (1, [.ref h1, .ref h2, .ref h3, .int x_2, .int a1, .int a2])), (h1, .inl (cI, 360, .inl f_3))] := hD
  refine lv_aload_n hx hb dX1_putSinceNever_6 rfl (lv_at hl 0 rfl) ?_
  refine lv_bipush (v := 99) hx hb dX1_putSinceNever_7 (by decide) ?_
  have hPc := hP.sub (ws' := [(h0, .inr (1, [.ref h1, .ref h2, .ref h3, .int x_2, .int a1, .int a2])), (h1, .inl (cI, 360, .inl f_3))]) [0, 1] rfl
  have hDc := hD.sub (ws' := [(h0, .inr (1, [.ref h1, .ref h2, .ref h3, .int x_2, .int a1, .int a2])), (h1, .inl (cI, 360, .inl f_3))]) [0, 1] (by decide) rfl
  have hFc := va_free (wc := [(h0, .inr (1, [.ref h1, .ref h2, .ref h3, .int x_2, .int a1, .int a2])), (h1, .inl (cI, 360, .inl f_3))]) hD hS hA [0, 1] rfl
  refine va_callv (va_runV (As := [.int 99]) (rest := []) ⟨hx, hb, hml, hown, hts⟩ (c_s_X1_put l dC dI cB cI cJ cZ cP h0 h1 f_3 h2 h3 x_2 (rg_mono hx_2 (by decide) (by decide)) a1 a2 99 H.size) (cwV 1 hts (gd_V (List.mem_of_getElem? (i := 1) rfl) (List.mem_of_getElem? (i := 2) rfl) (List.mem_of_getElem? (i := 3) rfl) (List.mem_of_getElem? (i := 4) rfl) (gd_mono k_s_X1_put (fun _ h => List.mem_cons_of_mem _ (List.mem_append_right _ (List.mem_append_left _ h))))) rfl rfl rfl (by decide +kernel) ⟨Nat.le_of_ble_eq_true rfl, Nat.le_of_ble_eq_true rfl⟩) ⟨fun a U g mk q => by obtain ⟨q0, q1, qP, qK, qD⟩ := q; exact ⟨q0, q1, qP, va_K.moved (u := U) (U := U.calling g mk a) (Vm.Alike.refl U.vm) qK, qD⟩, va_recv hK hPc (ci := 1) (q0 := 0) rfl rfl, fun U hU hW => ⟨rfl, by rw [hU], by rw [hU]; exact hPc, va_K.moved hW.alike hK, hDc.weaken (fun _ _ _ _ => trivial)⟩⟩ rfl rfl hl.1 rfl (lv_room (Nat.le_of_ble_eq_true rfl)) dX1_putSinceNever_9 ⟨Nat.le_of_ble_eq_true rfl, Nat.le_of_ble_eq_true rfl⟩) hS (fun q _ h => hFc q h) hFc (fun u t H1 locs ht hvm hw hB hz1 hk1 hS => ?_)
  obtain ⟨x_5, f_6, hx_5, hP1, hD1⟩ := hB
  rw [ht] at hP1
  obtain ⟨hP, hD⟩ := va_join (wr := []) (w1 := [(h0, .inr (1, [.ref h1, .ref h2, .ref h3, .int x_5, .int a1, .int a2])), (h1, .inl (cI, 360, .inl f_6))]) hP hD [0, 1] [] rfl rfl (by decide) (by decide) hk1 hFc hP1 hD1
  generalize H1 = H at hP hS ⊢
  replace hP : va_P (dC, dI) vwCl [(h0, .inr (1, [.ref h1, .ref h2, .ref h3, .int x_5, .int a1, .int a2])), (h1, .inl (cI, 360, .inl f_6))] H := hP
  replace hD : va_D A [(h0, .inr (1, [.ref h1, .ref h2, .ref h3, .int x_5, .int a1, .int a2])), (h1, .inl (cI, 360, .inl f_6))] := hD
  refine lv_aload_n hx hb dX1_putSinceNever_12 rfl (lv_at hl 0 rfl) ?_
  refine lv_bipush (v := (-23)) hx hb dX1_putSinceNever_13 (by decide) ?_
  have hPc := hP.sub (ws' := [(h0, .inr (1, [.ref h1, .ref h2, .ref h3, .int x_5, .int a1, .int a2])), (h1, .inl (cI, 360, .inl f_6))]) [0, 1] rfl
  have hDc := hD.sub (ws' := [(h0, .inr (1, [.ref h1, .ref h2, .ref h3, .int x_5, .int a1, .int a2])), (h1, .inl (cI, 360, .inl f_6))]) [0, 1] (by decide) rfl
  have hFc := va_free (wc := [(h0, .inr (1, [.ref h1, .ref h2, .ref h3, .int x_5, .int a1, .int a2])), (h1, .inl (cI, 360, .inl f_6))]) hD hS hA [0, 1] rfl
  refine va_callv (va_runV (As := [.int (-23)]) (rest := []) ⟨hx, hb, hml, hown, hts⟩ (c_s_X1_put l dC dI cB cI cJ cZ cP h0 h1 f_6 h2 h3 x_5 (rg_mono hx_5 (by decide) (by decide)) a1 a2 ((-23)) H.size) (cwV 1 hts (gd_V (List.mem_of_getElem? (i := 1) rfl) (List.mem_of_getElem? (i := 2) rfl) (List.mem_of_getElem? (i := 3) rfl) (List.mem_of_getElem? (i := 4) rfl) (gd_mono k_s_X1_put (fun _ h => List.mem_cons_of_mem _ (List.mem_append_right _ (List.mem_append_left _ h))))) rfl rfl rfl (by decide +kernel) ⟨Nat.le_of_ble_eq_true rfl, Nat.le_of_ble_eq_true rfl⟩) ⟨fun a U g mk q => by obtain ⟨q0, q1, qP, qK, qD⟩ := q; exact ⟨q0, q1, qP, va_K.moved (u := U) (U := U.calling g mk a) (Vm.Alike.refl U.vm) qK, qD⟩, va_recv hK hPc (ci := 1) (q0 := 0) rfl rfl, fun U hU hW => ⟨rfl, by rw [hU], by rw [hU]; exact hPc, va_K.moved hW.alike hK, hDc.weaken (fun _ _ _ _ => trivial)⟩⟩ rfl rfl hl.1 rfl (lv_room (Nat.le_of_ble_eq_true rfl)) dX1_putSinceNever_15 ⟨Nat.le_of_ble_eq_true rfl, Nat.le_of_ble_eq_true rfl⟩) hS (fun q _ h => hFc q h) hFc (fun u t H1 locs ht hvm hw hB hz1 hk1 hS => ?_)
  obtain ⟨x_8, f_9, hx_8, hP1, hD1⟩ := hB
  rw [ht] at hP1
  obtain ⟨hP, hD⟩ := va_join (wr := []) (w1 := [(h0, .inr (1, [.ref h1, .ref h2, .ref h3, .int x_8, .int a1, .int a2])), (h1, .inl (cI, 360, .inl f_9))]) hP hD [0, 1] [] rfl rfl (by decide) (by decide) hk1 hFc hP1 hD1
  generalize H1 = H at hP hS ⊢
  replace hP : va_P (dC, dI) vwCl [(h0, .inr (1, [.ref h1, .ref h2, .ref h3, .int x_8, .int a1, .int a2])), (h1, .inl (cI, 360, .inl f_9))] H := hP
  replace hD : va_D A [(h0, .inr (1, [.ref h1, .ref h2, .ref h3, .int x_8, .int a1, .int a2])), (h1, .inl (cI, 360, .inl f_9))] := hD
  have hP9 := hP.sub (ws' := [(h0, .inr (1, [.ref h1, .ref h2, .ref h3, .int x_8, .int a1, .int a2])), (h1, .inl (cI, 360, .inl f_9))]) [0, 1] rfl
  have hD9 := hD.sub (ws' := [(h0, .inr (1, [.ref h1, .ref h2, .ref h3, .int x_8, .int a1, .int a2])), (h1, .inl (cI, 360, .inl f_9))]) [0, 1] (by decide) rfl
  exact W.vret hx hb hr (fun t ht hW => ⟨⟨(), rfl, trivial, ⟨x_8, f_9, (rg_mono hx_8 (by decide) (by decide)), by rw [ht]; exact hP9, hD9⟩⟩, hS.F ht⟩) hS.2.2 dX1_putSinceNever_18
def v_s_X1_clear : List Cond := Cond.code yX1_clear cX1_clear 1 none :: ([Cond.methodLink RX1 38 yX1_open, Cond.instanceMethod yX1_open, Cond.selects RX1 yX1_open yX1_open, Cond.initialized RX1, Cond.methodLink RX1 31 yX1_putSinceNever, Cond.instanceMethod yX1_putSinceNever, Cond.selects RX1 yX1_putSinceNever yX1_putSinceNever] ++ (v_s_X1_open ++ (v_s_X1_putSinceNever ++ ([]))))
theorem k_s_X1_clear : GoodIn lw_tbl v_s_X1_clear := gd_c (List.mem_of_getElem? (i := 686) (by decide +kernel)) rfl (goodIn_app (gd_c (List.mem_of_getElem? (i := 687) (by decide +kernel)) rfl (gd_c (List.mem_of_getElem? (i := 688) (by decide +kernel)) rfl (gd_c (List.mem_of_getElem? (i := 689) (by decide +kernel)) rfl (gd_c (List.mem_of_getElem? (i := 133) (by decide +kernel)) rfl (gd_c (List.mem_of_getElem? (i := 175) (by decide +kernel)) rfl (gd_c (List.mem_of_getElem? (i := 177) (by decide +kernel)) rfl (gd_c (List.mem_of_getElem? (i := 0) (by decide +kernel)) rfl (gd_nil)))))))) (goodIn_app k_s_X1_open (goodIn_app k_s_X1_putSinceNever (gd_nil))))
set_option maxHeartbeats 2000000 in
set_option maxRecDepth 100000 in
theorem c_s_X1_clear (l : Launch) (dC : Nat → ClassId) (dI : Nat → Nat → Nat) (cB cI cJ cZ cP : ClassId) (h0 : Nat) (h1 : Nat) (g0 : Nat → Int32) (h2 : Nat) (h3 : Nat) (a0 : Int32) (a1 : Int32) (a2 : Int32) (sz : Nat) : Met l yX1_clear v_s_X1_clear ({ frames := 2, cells := 0, slots := 0, locals := 41 }) (va_Pc [.ref h0] (fun U => U.heap.size = sz ∧ va_P (dC, dI) vwCl [(h0, .inr (1, [.ref h1, .ref h2, .ref h3, .int a0, .int a1, .int a2])), (h1, .inl (cI, 360, .inl g0))] U.heap ∧ va_K (dC, dI) vwCl (ty5 cB cI cJ cZ cP) U ∧ va_D (fun _ => True) [(h0, .inr (1, [.ref h1, .ref h2, .ref h3, .int a0, .int a1, .int a2])), (h1, .inl (cI, 360, .inl g0))])) (va_Qv (fun _ : Unit => True) (fun _ t => ∃ (z0 : Int32) (z1 : Nat → Int32), rg (0) (360) z0 ∧ va_P (dC, dI) vwCl [(h0, .inr (1, [.ref h1, .ref h2, .ref h3, .int z0, .int a1, .int 0])), (h1, .inl (cI, 360, .inl z1))] t.heap ∧ va_D (va_A [(h0, .inr (1, [.ref h1, .ref h2, .ref h3, .int a0, .int a1, .int a2])), (h1, .inl (cI, 360, .inl g0))] sz) [(h0, .inr (1, [.ref h1, .ref h2, .ref h3, .int z0, .int a1, .int 0])), (h1, .inl (cI, 360, .inl z1))]) (va_A [(h0, .inr (1, [.ref h1, .ref h2, .ref h3, .int a0, .int a1, .int a2])), (h1, .inl (cI, 360, .inl g0))] sz)) 0 0 (va_A [(h0, .inr (1, [.ref h1, .ref h2, .ref h3, .int a0, .int a1, .int a2])), (h1, .inl (cI, 360, .inl g0))] sz) := by
  refine Met.ofW (cc := cX1_clear) (maxL := 1) (ret := none) (by decide) rfl ?_
  intro p e s m args below meth c s₁ B hml hv
  obtain ⟨rfl, hsz, hP, hK, hD0⟩ := hv
  have hx := B.exec
  have hb := B.bytes
  have hr := B.returns
  have hts := atoms_spec (ws := v_s_X1_clear) B.pre
  have hown : s.vm.findClass RX1 = some m.cls := findClass_of_methodNamed B.named
  have hlocks := B.notSynchronized
  subst hsz
  have hD := hD0.self (sz := s.heap.size)
  generalize hAe : va_A [(h0, .inr (1, [.ref h1, .ref h2, .ref h3, .int a0, .int a1, .int a2])), (h1, .inl (cI, 360, .inl g0))] s.heap.size = A at hD ⊢
  have hA : ∀ q : Nat, s.heap.size ≤ q → A q := fun q h => by rw [← hAe]; exact Or.inr h
  have hP : va_P (dC, dI) vwCl [(h0, .inr (1, [.ref h1, .ref h2, .ref h3, .int a0, .int a1, .int a2])), (h1, .inl (cI, 360, .inl g0))] s.heap := hP
  have hl := lv_entry ([.ref h0]) (n := 1) (Nat.le_of_ble_eq_true rfl)
  rw [lg_entry_eq]
  generalize (lg_sl ([.ref h0]) ++ List.replicate (1 - (lg_sl ([.ref h0])).length) Slot.unset).toArray = ls at hl ⊢
  have hl : lv_has ls 1 [(0, .ref h0)] := hl
  refine W_gen (A := A) hP (fun H locs hP hS => ?_)
  refine lv_aload_n hx hb dX1_clear_0 rfl (lv_at hl 0 rfl) ?_
  have hPc := hP.sub (ws' := [(h0, .inr (1, [.ref h1, .ref h2, .ref h3, .int a0, .int a1, .int a2]))]) [0] rfl
  have hDc := hD.sub (ws' := [(h0, .inr (1, [.ref h1, .ref h2, .ref h3, .int a0, .int a1, .int a2]))]) [0] (by decide) rfl
  have hFc := va_free (wc := [(h0, .inr (1, [.ref h1, .ref h2, .ref h3, .int a0, .int a1, .int a2]))]) hD hS hA [0] rfl
  refine va_callv (va_runV (As := []) (rest := []) ⟨hx, hb, hml, hown, hts⟩ (c_s_X1_open l dC dI cB cI cJ cZ cP h0 h1 h2 h3 a0 a1 a2 H.size) (cwV 0 hts (gd_V (List.mem_of_getElem? (i := 1) rfl) (List.mem_of_getElem? (i := 2) rfl) (List.mem_of_getElem? (i := 3) rfl) (List.mem_of_getElem? (i := 4) rfl) (gd_mono k_s_X1_open (fun _ h => List.mem_cons_of_mem _ (List.mem_append_right _ (List.mem_append_left _ h))))) rfl rfl rfl (by decide +kernel) ⟨Nat.le_of_ble_eq_true rfl, Nat.le_of_ble_eq_true rfl⟩) ⟨fun a U g mk q => by obtain ⟨q0, q1, qP, qK, qD⟩ := q; exact ⟨q0, q1, qP, va_K.moved (u := U) (U := U.calling g mk a) (Vm.Alike.refl U.vm) qK, qD⟩, va_recv hK hPc (ci := 1) (q0 := 0) rfl rfl, fun U hU hW => ⟨rfl, by rw [hU], by rw [hU]; exact hPc, va_K.moved hW.alike hK, hDc.weaken (fun _ _ _ _ => trivial)⟩⟩ rfl rfl hl.1 rfl (lv_room (Nat.le_of_ble_eq_true rfl)) dX1_clear_1 ⟨Nat.le_of_ble_eq_true rfl, Nat.le_of_ble_eq_true rfl⟩) hS (fun q _ h => hFc q h) hFc (fun u t H1 locs ht hvm hw hB hz1 hk1 hS => ?_)
  obtain ⟨hP1, hD1⟩ := hB
  rw [ht] at hP1
  obtain ⟨hP, hD⟩ := va_join (wr := [(h1, .inl (cI, 360, .inl g0))]) (w1 := [(h0, .inr (1, [.ref h1, .ref h2, .ref h3, .int 0, .int a1, .int 0]))]) hP hD [0] [1] rfl rfl (by decide) (by decide) hk1 hFc hP1 hD1
  generalize H1 = H at hP hS ⊢
  replace hP : va_P (dC, dI) vwCl [(h1, .inl (cI, 360, .inl g0)), (h0, .inr (1, [.ref h1, .ref h2, .ref h3, .int 0, .int a1, .int 0]))] H := hP
  replace hD : va_D A [(h1, .inl (cI, 360, .inl g0)), (h0, .inr (1, [.ref h1, .ref h2, .ref h3, .int 0, .int a1, .int 0]))] := hD
  refine lv_aload_n hx hb dX1_clear_4 rfl (lv_at hl 0 rfl) ?_
  have hPc := hP.sub (ws' := [(h0, .inr (1, [.ref h1, .ref h2, .ref h3, .int 0, .int a1, .int 0])), (h1, .inl (cI, 360, .inl g0))]) [1, 0] rfl
  have hDc := hD.sub (ws' := [(h0, .inr (1, [.ref h1, .ref h2, .ref h3, .int 0, .int a1, .int 0])), (h1, .inl (cI, 360, .inl g0))]) [1, 0] (by decide) rfl
  have hFc := va_free (wc := [(h0, .inr (1, [.ref h1, .ref h2, .ref h3, .int 0, .int a1, .int 0])), (h1, .inl (cI, 360, .inl g0))]) hD hS hA [1, 0] rfl
  refine va_callv (va_runV (As := []) (rest := []) ⟨hx, hb, hml, hown, hts⟩ (c_s_X1_putSinceNever l dC dI cB cI cJ cZ cP h0 h1 g0 h2 h3 0 (rg_mono (rg_k (x := 0) (c := 0) (by decide)) (by decide) (by decide)) a1 0 H.size) (cwV 0 hts (gd_V (List.mem_of_getElem? (i := 5) rfl) (List.mem_of_getElem? (i := 6) rfl) (List.mem_of_getElem? (i := 7) rfl) (List.mem_of_getElem? (i := 4) rfl) (gd_mono k_s_X1_putSinceNever (fun _ h => List.mem_cons_of_mem _ (List.mem_append_right _ (List.mem_append_right _ (List.mem_append_left _ h)))))) rfl rfl rfl (by decide +kernel) ⟨Nat.le_of_ble_eq_true rfl, Nat.le_of_ble_eq_true rfl⟩) ⟨fun a U g mk q => by obtain ⟨q0, q1, qP, qK, qD⟩ := q; exact ⟨q0, q1, qP, va_K.moved (u := U) (U := U.calling g mk a) (Vm.Alike.refl U.vm) qK, qD⟩, va_recv hK hPc (ci := 1) (q0 := 0) rfl rfl, fun U hU hW => ⟨rfl, by rw [hU], by rw [hU]; exact hPc, va_K.moved hW.alike hK, hDc.weaken (fun _ _ _ _ => trivial)⟩⟩ rfl rfl hl.1 rfl (lv_room (Nat.le_of_ble_eq_true rfl)) dX1_clear_5 ⟨Nat.le_of_ble_eq_true rfl, Nat.le_of_ble_eq_true rfl⟩) hS (fun q _ h => hFc q h) hFc (fun u t H1 locs ht hvm hw hB hz1 hk1 hS => ?_)
  obtain ⟨x_3, f_4, hx_3, hP1, hD1⟩ := hB
  rw [ht] at hP1
  obtain ⟨hP, hD⟩ := va_join (wr := []) (w1 := [(h0, .inr (1, [.ref h1, .ref h2, .ref h3, .int x_3, .int a1, .int 0])), (h1, .inl (cI, 360, .inl f_4))]) hP hD [1, 0] [] rfl rfl (by decide) (by decide) hk1 hFc hP1 hD1
  generalize H1 = H at hP hS ⊢
  replace hP : va_P (dC, dI) vwCl [(h0, .inr (1, [.ref h1, .ref h2, .ref h3, .int x_3, .int a1, .int 0])), (h1, .inl (cI, 360, .inl f_4))] H := hP
  replace hD : va_D A [(h0, .inr (1, [.ref h1, .ref h2, .ref h3, .int x_3, .int a1, .int 0])), (h1, .inl (cI, 360, .inl f_4))] := hD
  have hP9 := hP.sub (ws' := [(h0, .inr (1, [.ref h1, .ref h2, .ref h3, .int x_3, .int a1, .int 0])), (h1, .inl (cI, 360, .inl f_4))]) [0, 1] rfl
  have hD9 := hD.sub (ws' := [(h0, .inr (1, [.ref h1, .ref h2, .ref h3, .int x_3, .int a1, .int 0])), (h1, .inl (cI, 360, .inl f_4))]) [0, 1] (by decide) rfl
  exact W.vret hx hb hr (fun t ht hW => ⟨⟨(), rfl, trivial, ⟨x_3, f_4, (rg_mono hx_3 (by decide) (by decide)), by rw [ht]; exact hP9, hD9⟩⟩, hS.F ht⟩) hS.2.2 dX1_clear_8
def v_s_X1_joined : List Cond := Cond.code yX1_joined cX1_joined 3 (some .int) :: ([] ++ ([]))
theorem k_s_X1_joined : GoodIn lw_tbl v_s_X1_joined := gd_c (List.mem_of_getElem? (i := 824) (by decide +kernel)) rfl (goodIn_app (gd_nil) (gd_nil))
set_option maxHeartbeats 2000000 in
set_option maxRecDepth 100000 in
theorem c_s_X1_joined (l : Launch) (dC : Nat → ClassId) (dI : Nat → Nat → Nat) (cB cI cJ cZ cP : ClassId) (p0 : Int32) (p1 : Int32) (p2 : Int32) (sz : Nat) : Met l yX1_joined v_s_X1_joined ({ frames := 0, cells := 0, slots := 0, locals := 0 }) (va_Pc [.int p0, .int p1, .int p2] (fun U => U.heap.size = sz ∧ va_P (dC, dI) vwCl [] U.heap ∧ va_K (dC, dI) vwCl (ty5 cB cI cJ cZ cP) U ∧ va_D (fun _ => True) [])) (va_Qi (fun (r : Int32) (u9 : Unit) => True) (fun u9 t => va_P (dC, dI) vwCl [] t.heap ∧ va_D (va_A [] sz) []) (va_A [] sz)) 0 0 (va_A [] sz) := by
  refine Met.ofW (cc := cX1_joined) (maxL := 3) (ret := (some .int)) (by decide) rfl ?_
  intro p e s m args below meth c s₁ B hml hv
  obtain ⟨rfl, hsz, hP, hK, hD0⟩ := hv
  have hx := B.exec
  have hb := B.bytes
  have hr := B.returns
  have hts := atoms_spec (ws := v_s_X1_joined) B.pre
  have hown : s.vm.findClass RX1 = some m.cls := findClass_of_methodNamed B.named
  have hlocks := B.notSynchronized
  subst hsz
  have hD := hD0.self (sz := s.heap.size)
  generalize hAe : va_A [] s.heap.size = A at hD ⊢
  have hA : ∀ q : Nat, s.heap.size ≤ q → A q := fun q h => by rw [← hAe]; exact Or.inr h
  have hP : va_P (dC, dI) vwCl [] s.heap := hP
  have hl := lv_entry ([.int p0, .int p1, .int p2]) (n := 3) (Nat.le_of_ble_eq_true rfl)
  rw [lg_entry_eq]
  generalize (lg_sl ([.int p0, .int p1, .int p2]) ++ List.replicate (3 - (lg_sl ([.int p0, .int p1, .int p2])).length) Slot.unset).toArray = ls at hl ⊢
  have hl : lv_has ls 3 [(0, .int p0), (1, .int p1), (2, .int p2)] := hl
  refine W_gen (A := A) hP (fun H locs hP hS => ?_)
  refine lv_iload_n hx hb dX1_joined_0 rfl (lv_at hl 0 rfl) ?_
  by_cases c_1 : p0 = 9
  · skip
    refine tp_v (.int 9) (congrArg Value.int (c_1)) ?_
    refine lv_tableIn (off := 87) (tgt := 88) hx hb dX1_joined_1 (by decide) (by decide) (by decide) (by decide) ?_
    have h_2 : rg (9) (9) p0 := by have ha := (rg_any p0); have hb_ := (rg_k (x := 9) (c := 9) (by decide)); simp only [rg, fa_lt, fa_le, fa_eq, (by decide : (9 : Int32).toInt = 9)] at ha hb_ c_1; simp only [rg]; omega
    refine lv_iload_n hx hb dX1_joined_88 rfl (lv_at hl 1 rfl) ?_
    refine lv_if_ne (tgt := 96) hx hb dX1_joined_89 (by decide) (fun c_3 => ?_) (fun c_3 => ?_)
    · skip
      refine lv_iconst (v := 1) hx hb dX1_joined_96 (by decide) ?_
      refine lv_goto (tgt := 101) hx hb dX1_joined_97 (by decide) ?_
      have hP9 := hP.sub (ws' := []) [] rfl
      have hD9 := hD.sub (ws' := []) [] (by decide) rfl
      exact W.iret (v := 1) hx hb hr (fun t ht hW => ⟨⟨1, (), rfl, trivial, ⟨by rw [ht]; exact hP9, hD9⟩⟩, hS.F ht⟩) hS.2.2 dX1_joined_101
    · skip
      have h_4 : rg (0) (0) p1 := by have ha := (rg_any p1); have hb_ := (rg_k (x := 0) (c := 0) (by decide)); simp only [rg, fa_lt, fa_le, fa_eq, (by decide : (0 : Int32).toInt = 0)] at ha hb_ c_3; simp only [rg]; omega
      refine lv_iload_n hx hb dX1_joined_92 rfl (lv_at hl 2 rfl) ?_
      refine lv_if_eq (tgt := 100) hx hb dX1_joined_93 (by decide) (fun c_5 => ?_) (fun c_5 => ?_)
      · skip
        have h_6 : rg (0) (0) p2 := by have ha := (rg_any p2); have hb_ := (rg_k (x := 0) (c := 0) (by decide)); simp only [rg, fa_lt, fa_le, fa_eq, (by decide : (0 : Int32).toInt = 0)] at ha hb_ c_5; simp only [rg]; omega
        refine lv_iconst (v := 0) hx hb dX1_joined_100 (by decide) ?_
        have hP9 := hP.sub (ws' := []) [] rfl
        have hD9 := hD.sub (ws' := []) [] (by decide) rfl
        exact W.iret (v := 0) hx hb hr (fun t ht hW => ⟨⟨0, (), rfl, trivial, ⟨by rw [ht]; exact hP9, hD9⟩⟩, hS.F ht⟩) hS.2.2 dX1_joined_101
      · skip
        refine lv_iconst (v := 1) hx hb dX1_joined_96 (by decide) ?_
        refine lv_goto (tgt := 101) hx hb dX1_joined_97 (by decide) ?_
        have hP9 := hP.sub (ws' := []) [] rfl
        have hD9 := hD.sub (ws' := []) [] (by decide) rfl
        exact W.iret (v := 1) hx hb hr (fun t ht hW => ⟨⟨1, (), rfl, trivial, ⟨by rw [ht]; exact hP9, hD9⟩⟩, hS.F ht⟩) hS.2.2 dX1_joined_101
  by_cases c_7 : p0 = 10
  · skip
    refine tp_v (.int 10) (congrArg Value.int (c_7)) ?_
    refine lv_tableIn (off := 101) (tgt := 102) hx hb dX1_joined_1 (by decide) (by decide) (by decide) (by decide) ?_
    have h_8 : rg (10) (10) p0 := by have ha := (rg_any p0); have hb_ := (rg_k (x := 10) (c := 10) (by decide)); simp only [rg, fa_lt, fa_le, fa_eq, (by decide : (10 : Int32).toInt = 10)] at ha hb_ c_7; simp only [rg]; omega
    refine lv_iload_n hx hb dX1_joined_102 rfl (lv_at hl 1 rfl) ?_
    refine lv_if_eq (tgt := 114) hx hb dX1_joined_103 (by decide) (fun c_9 => ?_) (fun c_9 => ?_)
    · skip
      have h_10 : rg (0) (0) p1 := by have ha := (rg_any p1); have hb_ := (rg_k (x := 0) (c := 0) (by decide)); simp only [rg, fa_lt, fa_le, fa_eq, (by decide : (0 : Int32).toInt = 0)] at ha hb_ c_9; simp only [rg]; omega
      refine lv_iconst (v := 0) hx hb dX1_joined_114 (by decide) ?_
      have hP9 := hP.sub (ws' := []) [] rfl
      have hD9 := hD.sub (ws' := []) [] (by decide) rfl
      exact W.iret (v := 0) hx hb hr (fun t ht hW => ⟨⟨0, (), rfl, trivial, ⟨by rw [ht]; exact hP9, hD9⟩⟩, hS.F ht⟩) hS.2.2 dX1_joined_115
    · skip
      refine lv_iload_n hx hb dX1_joined_106 rfl (lv_at hl 2 rfl) ?_
      refine lv_if_eq (tgt := 114) hx hb dX1_joined_107 (by decide) (fun c_11 => ?_) (fun c_11 => ?_)
      · skip
        have h_12 : rg (0) (0) p2 := by have ha := (rg_any p2); have hb_ := (rg_k (x := 0) (c := 0) (by decide)); simp only [rg, fa_lt, fa_le, fa_eq, (by decide : (0 : Int32).toInt = 0)] at ha hb_ c_11; simp only [rg]; omega
        refine lv_iconst (v := 0) hx hb dX1_joined_114 (by decide) ?_
        have hP9 := hP.sub (ws' := []) [] rfl
        have hD9 := hD.sub (ws' := []) [] (by decide) rfl
        exact W.iret (v := 0) hx hb hr (fun t ht hW => ⟨⟨0, (), rfl, trivial, ⟨by rw [ht]; exact hP9, hD9⟩⟩, hS.F ht⟩) hS.2.2 dX1_joined_115
      · skip
        refine lv_iconst (v := 1) hx hb dX1_joined_110 (by decide) ?_
        refine lv_goto (tgt := 115) hx hb dX1_joined_111 (by decide) ?_
        have hP9 := hP.sub (ws' := []) [] rfl
        have hD9 := hD.sub (ws' := []) [] (by decide) rfl
        exact W.iret (v := 1) hx hb hr (fun t ht hW => ⟨⟨1, (), rfl, trivial, ⟨by rw [ht]; exact hP9, hD9⟩⟩, hS.F ht⟩) hS.2.2 dX1_joined_115
  by_cases c_13 : p0 = 11
  · skip
    refine tp_v (.int 11) (congrArg Value.int (c_13)) ?_
    refine lv_tableIn (off := 160) (tgt := 161) hx hb dX1_joined_1 (by decide) (by decide) (by decide) (by decide) ?_
    have h_14 : rg (11) (11) p0 := by have ha := (rg_any p0); have hb_ := (rg_k (x := 11) (c := 11) (by decide)); simp only [rg, fa_lt, fa_le, fa_eq, (by decide : (11 : Int32).toInt = 11)] at ha hb_ c_13; simp only [rg]; omega
    refine lv_iload_n hx hb dX1_joined_161 rfl (lv_at hl 2 rfl) ?_
    refine lv_if_ne (tgt := 169) hx hb dX1_joined_162 (by decide) (fun c_15 => ?_) (fun c_15 => ?_)
    · skip
      refine lv_iload_n hx hb dX1_joined_169 rfl (lv_at hl 1 rfl) ?_
      refine lv_iload_n hx hb dX1_joined_170 rfl (lv_at hl 2 rfl) ?_
      refine lv_idiv hx hb dX1_joined_171 c_15 ?_
      refine lv_topi (fun x_16 ex_16 => ?_)
      have hP9 := hP.sub (ws' := []) [] rfl
      have hD9 := hD.sub (ws' := []) [] (by decide) rfl
      exact W.iret (v := x_16) hx hb hr (fun t ht hW => ⟨⟨x_16, (), rfl, trivial, ⟨by rw [ht]; exact hP9, hD9⟩⟩, hS.F ht⟩) hS.2.2 dX1_joined_172
    · skip
      have h_17 : rg (0) (0) p2 := by have ha := (rg_any p2); have hb_ := (rg_k (x := 0) (c := 0) (by decide)); simp only [rg, fa_lt, fa_le, fa_eq, (by decide : (0 : Int32).toInt = 0)] at ha hb_ c_15; simp only [rg]; omega
      refine lv_iconst (v := 0) hx hb dX1_joined_165 (by decide) ?_
      refine lv_goto (tgt := 172) hx hb dX1_joined_166 (by decide) ?_
      have hP9 := hP.sub (ws' := []) [] rfl
      have hD9 := hD.sub (ws' := []) [] (by decide) rfl
      exact W.iret (v := 0) hx hb hr (fun t ht hW => ⟨⟨0, (), rfl, trivial, ⟨by rw [ht]; exact hP9, hD9⟩⟩, hS.F ht⟩) hS.2.2 dX1_joined_172
  by_cases c_18 : p0 = 12
  · skip
    refine tp_v (.int 12) (congrArg Value.int (c_18)) ?_
    refine lv_tableIn (off := 160) (tgt := 161) hx hb dX1_joined_1 (by decide) (by decide) (by decide) (by decide) ?_
    have h_19 : rg (12) (12) p0 := by have ha := (rg_any p0); have hb_ := (rg_k (x := 12) (c := 12) (by decide)); simp only [rg, fa_lt, fa_le, fa_eq, (by decide : (12 : Int32).toInt = 12)] at ha hb_ c_18; simp only [rg]; omega
    refine lv_iload_n hx hb dX1_joined_161 rfl (lv_at hl 2 rfl) ?_
    refine lv_if_ne (tgt := 169) hx hb dX1_joined_162 (by decide) (fun c_20 => ?_) (fun c_20 => ?_)
    · skip
      refine lv_iload_n hx hb dX1_joined_169 rfl (lv_at hl 1 rfl) ?_
      refine lv_iload_n hx hb dX1_joined_170 rfl (lv_at hl 2 rfl) ?_
      refine lv_idiv hx hb dX1_joined_171 c_20 ?_
      refine lv_topi (fun x_21 ex_21 => ?_)
      have hP9 := hP.sub (ws' := []) [] rfl
      have hD9 := hD.sub (ws' := []) [] (by decide) rfl
      exact W.iret (v := x_21) hx hb hr (fun t ht hW => ⟨⟨x_21, (), rfl, trivial, ⟨by rw [ht]; exact hP9, hD9⟩⟩, hS.F ht⟩) hS.2.2 dX1_joined_172
    · skip
      have h_22 : rg (0) (0) p2 := by have ha := (rg_any p2); have hb_ := (rg_k (x := 0) (c := 0) (by decide)); simp only [rg, fa_lt, fa_le, fa_eq, (by decide : (0 : Int32).toInt = 0)] at ha hb_ c_20; simp only [rg]; omega
      refine lv_iconst (v := 0) hx hb dX1_joined_165 (by decide) ?_
      refine lv_goto (tgt := 172) hx hb dX1_joined_166 (by decide) ?_
      have hP9 := hP.sub (ws' := []) [] rfl
      have hD9 := hD.sub (ws' := []) [] (by decide) rfl
      exact W.iret (v := 0) hx hb hr (fun t ht hW => ⟨⟨0, (), rfl, trivial, ⟨by rw [ht]; exact hP9, hD9⟩⟩, hS.F ht⟩) hS.2.2 dX1_joined_172
  by_cases c_23 : p0 = 13
  · skip
    refine tp_v (.int 13) (congrArg Value.int (c_23)) ?_
    refine lv_tableIn (off := 160) (tgt := 161) hx hb dX1_joined_1 (by decide) (by decide) (by decide) (by decide) ?_
    have h_24 : rg (13) (13) p0 := by have ha := (rg_any p0); have hb_ := (rg_k (x := 13) (c := 13) (by decide)); simp only [rg, fa_lt, fa_le, fa_eq, (by decide : (13 : Int32).toInt = 13)] at ha hb_ c_23; simp only [rg]; omega
    refine lv_iload_n hx hb dX1_joined_161 rfl (lv_at hl 2 rfl) ?_
    refine lv_if_ne (tgt := 169) hx hb dX1_joined_162 (by decide) (fun c_25 => ?_) (fun c_25 => ?_)
    · skip
      refine lv_iload_n hx hb dX1_joined_169 rfl (lv_at hl 1 rfl) ?_
      refine lv_iload_n hx hb dX1_joined_170 rfl (lv_at hl 2 rfl) ?_
      refine lv_idiv hx hb dX1_joined_171 c_25 ?_
      refine lv_topi (fun x_26 ex_26 => ?_)
      have hP9 := hP.sub (ws' := []) [] rfl
      have hD9 := hD.sub (ws' := []) [] (by decide) rfl
      exact W.iret (v := x_26) hx hb hr (fun t ht hW => ⟨⟨x_26, (), rfl, trivial, ⟨by rw [ht]; exact hP9, hD9⟩⟩, hS.F ht⟩) hS.2.2 dX1_joined_172
    · skip
      have h_27 : rg (0) (0) p2 := by have ha := (rg_any p2); have hb_ := (rg_k (x := 0) (c := 0) (by decide)); simp only [rg, fa_lt, fa_le, fa_eq, (by decide : (0 : Int32).toInt = 0)] at ha hb_ c_25; simp only [rg]; omega
      refine lv_iconst (v := 0) hx hb dX1_joined_165 (by decide) ?_
      refine lv_goto (tgt := 172) hx hb dX1_joined_166 (by decide) ?_
      have hP9 := hP.sub (ws' := []) [] rfl
      have hD9 := hD.sub (ws' := []) [] (by decide) rfl
      exact W.iret (v := 0) hx hb hr (fun t ht hW => ⟨⟨0, (), rfl, trivial, ⟨by rw [ht]; exact hP9, hD9⟩⟩, hS.F ht⟩) hS.2.2 dX1_joined_172
  by_cases c_28 : p0 = 14
  · skip
    refine tp_v (.int 14) (congrArg Value.int (c_28)) ?_
    refine lv_tableIn (off := 160) (tgt := 161) hx hb dX1_joined_1 (by decide) (by decide) (by decide) (by decide) ?_
    have h_29 : rg (14) (14) p0 := by have ha := (rg_any p0); have hb_ := (rg_k (x := 14) (c := 14) (by decide)); simp only [rg, fa_lt, fa_le, fa_eq, (by decide : (14 : Int32).toInt = 14)] at ha hb_ c_28; simp only [rg]; omega
    refine lv_iload_n hx hb dX1_joined_161 rfl (lv_at hl 2 rfl) ?_
    refine lv_if_ne (tgt := 169) hx hb dX1_joined_162 (by decide) (fun c_30 => ?_) (fun c_30 => ?_)
    · skip
      refine lv_iload_n hx hb dX1_joined_169 rfl (lv_at hl 1 rfl) ?_
      refine lv_iload_n hx hb dX1_joined_170 rfl (lv_at hl 2 rfl) ?_
      refine lv_idiv hx hb dX1_joined_171 c_30 ?_
      refine lv_topi (fun x_31 ex_31 => ?_)
      have hP9 := hP.sub (ws' := []) [] rfl
      have hD9 := hD.sub (ws' := []) [] (by decide) rfl
      exact W.iret (v := x_31) hx hb hr (fun t ht hW => ⟨⟨x_31, (), rfl, trivial, ⟨by rw [ht]; exact hP9, hD9⟩⟩, hS.F ht⟩) hS.2.2 dX1_joined_172
    · skip
      have h_32 : rg (0) (0) p2 := by have ha := (rg_any p2); have hb_ := (rg_k (x := 0) (c := 0) (by decide)); simp only [rg, fa_lt, fa_le, fa_eq, (by decide : (0 : Int32).toInt = 0)] at ha hb_ c_30; simp only [rg]; omega
      refine lv_iconst (v := 0) hx hb dX1_joined_165 (by decide) ?_
      refine lv_goto (tgt := 172) hx hb dX1_joined_166 (by decide) ?_
      have hP9 := hP.sub (ws' := []) [] rfl
      have hD9 := hD.sub (ws' := []) [] (by decide) rfl
      exact W.iret (v := 0) hx hb hr (fun t ht hW => ⟨⟨0, (), rfl, trivial, ⟨by rw [ht]; exact hP9, hD9⟩⟩, hS.F ht⟩) hS.2.2 dX1_joined_172
  by_cases c_33 : p0 = 15
  · skip
    refine tp_v (.int 15) (congrArg Value.int (c_33)) ?_
    refine lv_tableIn (off := 160) (tgt := 161) hx hb dX1_joined_1 (by decide) (by decide) (by decide) (by decide) ?_
    have h_34 : rg (15) (15) p0 := by have ha := (rg_any p0); have hb_ := (rg_k (x := 15) (c := 15) (by decide)); simp only [rg, fa_lt, fa_le, fa_eq, (by decide : (15 : Int32).toInt = 15)] at ha hb_ c_33; simp only [rg]; omega
    refine lv_iload_n hx hb dX1_joined_161 rfl (lv_at hl 2 rfl) ?_
    refine lv_if_ne (tgt := 169) hx hb dX1_joined_162 (by decide) (fun c_35 => ?_) (fun c_35 => ?_)
    · skip
      refine lv_iload_n hx hb dX1_joined_169 rfl (lv_at hl 1 rfl) ?_
      refine lv_iload_n hx hb dX1_joined_170 rfl (lv_at hl 2 rfl) ?_
      refine lv_idiv hx hb dX1_joined_171 c_35 ?_
      refine lv_topi (fun x_36 ex_36 => ?_)
      have hP9 := hP.sub (ws' := []) [] rfl
      have hD9 := hD.sub (ws' := []) [] (by decide) rfl
      exact W.iret (v := x_36) hx hb hr (fun t ht hW => ⟨⟨x_36, (), rfl, trivial, ⟨by rw [ht]; exact hP9, hD9⟩⟩, hS.F ht⟩) hS.2.2 dX1_joined_172
    · skip
      have h_37 : rg (0) (0) p2 := by have ha := (rg_any p2); have hb_ := (rg_k (x := 0) (c := 0) (by decide)); simp only [rg, fa_lt, fa_le, fa_eq, (by decide : (0 : Int32).toInt = 0)] at ha hb_ c_35; simp only [rg]; omega
      refine lv_iconst (v := 0) hx hb dX1_joined_165 (by decide) ?_
      refine lv_goto (tgt := 172) hx hb dX1_joined_166 (by decide) ?_
      have hP9 := hP.sub (ws' := []) [] rfl
      have hD9 := hD.sub (ws' := []) [] (by decide) rfl
      exact W.iret (v := 0) hx hb hr (fun t ht hW => ⟨⟨0, (), rfl, trivial, ⟨by rw [ht]; exact hP9, hD9⟩⟩, hS.F ht⟩) hS.2.2 dX1_joined_172
  by_cases c_38 : p0 = 16
  · skip
    refine tp_v (.int 16) (congrArg Value.int (c_38)) ?_
    refine lv_tableIn (off := 160) (tgt := 161) hx hb dX1_joined_1 (by decide) (by decide) (by decide) (by decide) ?_
    have h_39 : rg (16) (16) p0 := by have ha := (rg_any p0); have hb_ := (rg_k (x := 16) (c := 16) (by decide)); simp only [rg, fa_lt, fa_le, fa_eq, (by decide : (16 : Int32).toInt = 16)] at ha hb_ c_38; simp only [rg]; omega
    refine lv_iload_n hx hb dX1_joined_161 rfl (lv_at hl 2 rfl) ?_
    refine lv_if_ne (tgt := 169) hx hb dX1_joined_162 (by decide) (fun c_40 => ?_) (fun c_40 => ?_)
    · skip
      refine lv_iload_n hx hb dX1_joined_169 rfl (lv_at hl 1 rfl) ?_
      refine lv_iload_n hx hb dX1_joined_170 rfl (lv_at hl 2 rfl) ?_
      refine lv_idiv hx hb dX1_joined_171 c_40 ?_
      refine lv_topi (fun x_41 ex_41 => ?_)
      have hP9 := hP.sub (ws' := []) [] rfl
      have hD9 := hD.sub (ws' := []) [] (by decide) rfl
      exact W.iret (v := x_41) hx hb hr (fun t ht hW => ⟨⟨x_41, (), rfl, trivial, ⟨by rw [ht]; exact hP9, hD9⟩⟩, hS.F ht⟩) hS.2.2 dX1_joined_172
    · skip
      have h_42 : rg (0) (0) p2 := by have ha := (rg_any p2); have hb_ := (rg_k (x := 0) (c := 0) (by decide)); simp only [rg, fa_lt, fa_le, fa_eq, (by decide : (0 : Int32).toInt = 0)] at ha hb_ c_40; simp only [rg]; omega
      refine lv_iconst (v := 0) hx hb dX1_joined_165 (by decide) ?_
      refine lv_goto (tgt := 172) hx hb dX1_joined_166 (by decide) ?_
      have hP9 := hP.sub (ws' := []) [] rfl
      have hD9 := hD.sub (ws' := []) [] (by decide) rfl
      exact W.iret (v := 0) hx hb hr (fun t ht hW => ⟨⟨0, (), rfl, trivial, ⟨by rw [ht]; exact hP9, hD9⟩⟩, hS.F ht⟩) hS.2.2 dX1_joined_172
  by_cases c_43 : p0 = 17
  · skip
    refine tp_v (.int 17) (congrArg Value.int (c_43)) ?_
    refine lv_tableIn (off := 160) (tgt := 161) hx hb dX1_joined_1 (by decide) (by decide) (by decide) (by decide) ?_
    have h_44 : rg (17) (17) p0 := by have ha := (rg_any p0); have hb_ := (rg_k (x := 17) (c := 17) (by decide)); simp only [rg, fa_lt, fa_le, fa_eq, (by decide : (17 : Int32).toInt = 17)] at ha hb_ c_43; simp only [rg]; omega
    refine lv_iload_n hx hb dX1_joined_161 rfl (lv_at hl 2 rfl) ?_
    refine lv_if_ne (tgt := 169) hx hb dX1_joined_162 (by decide) (fun c_45 => ?_) (fun c_45 => ?_)
    · skip
      refine lv_iload_n hx hb dX1_joined_169 rfl (lv_at hl 1 rfl) ?_
      refine lv_iload_n hx hb dX1_joined_170 rfl (lv_at hl 2 rfl) ?_
      refine lv_idiv hx hb dX1_joined_171 c_45 ?_
      refine lv_topi (fun x_46 ex_46 => ?_)
      have hP9 := hP.sub (ws' := []) [] rfl
      have hD9 := hD.sub (ws' := []) [] (by decide) rfl
      exact W.iret (v := x_46) hx hb hr (fun t ht hW => ⟨⟨x_46, (), rfl, trivial, ⟨by rw [ht]; exact hP9, hD9⟩⟩, hS.F ht⟩) hS.2.2 dX1_joined_172
    · skip
      have h_47 : rg (0) (0) p2 := by have ha := (rg_any p2); have hb_ := (rg_k (x := 0) (c := 0) (by decide)); simp only [rg, fa_lt, fa_le, fa_eq, (by decide : (0 : Int32).toInt = 0)] at ha hb_ c_45; simp only [rg]; omega
      refine lv_iconst (v := 0) hx hb dX1_joined_165 (by decide) ?_
      refine lv_goto (tgt := 172) hx hb dX1_joined_166 (by decide) ?_
      have hP9 := hP.sub (ws' := []) [] rfl
      have hD9 := hD.sub (ws' := []) [] (by decide) rfl
      exact W.iret (v := 0) hx hb hr (fun t ht hW => ⟨⟨0, (), rfl, trivial, ⟨by rw [ht]; exact hP9, hD9⟩⟩, hS.F ht⟩) hS.2.2 dX1_joined_172
  by_cases c_48 : p0 = 18
  · skip
    refine tp_v (.int 18) (congrArg Value.int (c_48)) ?_
    refine lv_tableIn (off := 160) (tgt := 161) hx hb dX1_joined_1 (by decide) (by decide) (by decide) (by decide) ?_
    have h_49 : rg (18) (18) p0 := by have ha := (rg_any p0); have hb_ := (rg_k (x := 18) (c := 18) (by decide)); simp only [rg, fa_lt, fa_le, fa_eq, (by decide : (18 : Int32).toInt = 18)] at ha hb_ c_48; simp only [rg]; omega
    refine lv_iload_n hx hb dX1_joined_161 rfl (lv_at hl 2 rfl) ?_
    refine lv_if_ne (tgt := 169) hx hb dX1_joined_162 (by decide) (fun c_50 => ?_) (fun c_50 => ?_)
    · skip
      refine lv_iload_n hx hb dX1_joined_169 rfl (lv_at hl 1 rfl) ?_
      refine lv_iload_n hx hb dX1_joined_170 rfl (lv_at hl 2 rfl) ?_
      refine lv_idiv hx hb dX1_joined_171 c_50 ?_
      refine lv_topi (fun x_51 ex_51 => ?_)
      have hP9 := hP.sub (ws' := []) [] rfl
      have hD9 := hD.sub (ws' := []) [] (by decide) rfl
      exact W.iret (v := x_51) hx hb hr (fun t ht hW => ⟨⟨x_51, (), rfl, trivial, ⟨by rw [ht]; exact hP9, hD9⟩⟩, hS.F ht⟩) hS.2.2 dX1_joined_172
    · skip
      have h_52 : rg (0) (0) p2 := by have ha := (rg_any p2); have hb_ := (rg_k (x := 0) (c := 0) (by decide)); simp only [rg, fa_lt, fa_le, fa_eq, (by decide : (0 : Int32).toInt = 0)] at ha hb_ c_50; simp only [rg]; omega
      refine lv_iconst (v := 0) hx hb dX1_joined_165 (by decide) ?_
      refine lv_goto (tgt := 172) hx hb dX1_joined_166 (by decide) ?_
      have hP9 := hP.sub (ws' := []) [] rfl
      have hD9 := hD.sub (ws' := []) [] (by decide) rfl
      exact W.iret (v := 0) hx hb hr (fun t ht hW => ⟨⟨0, (), rfl, trivial, ⟨by rw [ht]; exact hP9, hD9⟩⟩, hS.F ht⟩) hS.2.2 dX1_joined_172
  by_cases c_53 : p0 = 19
  · skip
    refine tp_v (.int 19) (congrArg Value.int (c_53)) ?_
    refine lv_tableIn (off := 160) (tgt := 161) hx hb dX1_joined_1 (by decide) (by decide) (by decide) (by decide) ?_
    have h_54 : rg (19) (19) p0 := by have ha := (rg_any p0); have hb_ := (rg_k (x := 19) (c := 19) (by decide)); simp only [rg, fa_lt, fa_le, fa_eq, (by decide : (19 : Int32).toInt = 19)] at ha hb_ c_53; simp only [rg]; omega
    refine lv_iload_n hx hb dX1_joined_161 rfl (lv_at hl 2 rfl) ?_
    refine lv_if_ne (tgt := 169) hx hb dX1_joined_162 (by decide) (fun c_55 => ?_) (fun c_55 => ?_)
    · skip
      refine lv_iload_n hx hb dX1_joined_169 rfl (lv_at hl 1 rfl) ?_
      refine lv_iload_n hx hb dX1_joined_170 rfl (lv_at hl 2 rfl) ?_
      refine lv_idiv hx hb dX1_joined_171 c_55 ?_
      refine lv_topi (fun x_56 ex_56 => ?_)
      have hP9 := hP.sub (ws' := []) [] rfl
      have hD9 := hD.sub (ws' := []) [] (by decide) rfl
      exact W.iret (v := x_56) hx hb hr (fun t ht hW => ⟨⟨x_56, (), rfl, trivial, ⟨by rw [ht]; exact hP9, hD9⟩⟩, hS.F ht⟩) hS.2.2 dX1_joined_172
    · skip
      have h_57 : rg (0) (0) p2 := by have ha := (rg_any p2); have hb_ := (rg_k (x := 0) (c := 0) (by decide)); simp only [rg, fa_lt, fa_le, fa_eq, (by decide : (0 : Int32).toInt = 0)] at ha hb_ c_55; simp only [rg]; omega
      refine lv_iconst (v := 0) hx hb dX1_joined_165 (by decide) ?_
      refine lv_goto (tgt := 172) hx hb dX1_joined_166 (by decide) ?_
      have hP9 := hP.sub (ws' := []) [] rfl
      have hD9 := hD.sub (ws' := []) [] (by decide) rfl
      exact W.iret (v := 0) hx hb hr (fun t ht hW => ⟨⟨0, (), rfl, trivial, ⟨by rw [ht]; exact hP9, hD9⟩⟩, hS.F ht⟩) hS.2.2 dX1_joined_172
  by_cases c_58 : p0 = 20
  · skip
    refine tp_v (.int 20) (congrArg Value.int (c_58)) ?_
    refine lv_tableIn (off := 160) (tgt := 161) hx hb dX1_joined_1 (by decide) (by decide) (by decide) (by decide) ?_
    have h_59 : rg (20) (20) p0 := by have ha := (rg_any p0); have hb_ := (rg_k (x := 20) (c := 20) (by decide)); simp only [rg, fa_lt, fa_le, fa_eq, (by decide : (20 : Int32).toInt = 20)] at ha hb_ c_58; simp only [rg]; omega
    refine lv_iload_n hx hb dX1_joined_161 rfl (lv_at hl 2 rfl) ?_
    refine lv_if_ne (tgt := 169) hx hb dX1_joined_162 (by decide) (fun c_60 => ?_) (fun c_60 => ?_)
    · skip
      refine lv_iload_n hx hb dX1_joined_169 rfl (lv_at hl 1 rfl) ?_
      refine lv_iload_n hx hb dX1_joined_170 rfl (lv_at hl 2 rfl) ?_
      refine lv_idiv hx hb dX1_joined_171 c_60 ?_
      refine lv_topi (fun x_61 ex_61 => ?_)
      have hP9 := hP.sub (ws' := []) [] rfl
      have hD9 := hD.sub (ws' := []) [] (by decide) rfl
      exact W.iret (v := x_61) hx hb hr (fun t ht hW => ⟨⟨x_61, (), rfl, trivial, ⟨by rw [ht]; exact hP9, hD9⟩⟩, hS.F ht⟩) hS.2.2 dX1_joined_172
    · skip
      have h_62 : rg (0) (0) p2 := by have ha := (rg_any p2); have hb_ := (rg_k (x := 0) (c := 0) (by decide)); simp only [rg, fa_lt, fa_le, fa_eq, (by decide : (0 : Int32).toInt = 0)] at ha hb_ c_60; simp only [rg]; omega
      refine lv_iconst (v := 0) hx hb dX1_joined_165 (by decide) ?_
      refine lv_goto (tgt := 172) hx hb dX1_joined_166 (by decide) ?_
      have hP9 := hP.sub (ws' := []) [] rfl
      have hD9 := hD.sub (ws' := []) [] (by decide) rfl
      exact W.iret (v := 0) hx hb hr (fun t ht hW => ⟨⟨0, (), rfl, trivial, ⟨by rw [ht]; exact hP9, hD9⟩⟩, hS.F ht⟩) hS.2.2 dX1_joined_172
  by_cases c_63 : p0 = 21
  · skip
    refine tp_v (.int 21) (congrArg Value.int (c_63)) ?_
    refine lv_tableIn (off := 115) (tgt := 116) hx hb dX1_joined_1 (by decide) (by decide) (by decide) (by decide) ?_
    have h_64 : rg (21) (21) p0 := by have ha := (rg_any p0); have hb_ := (rg_k (x := 21) (c := 21) (by decide)); simp only [rg, fa_lt, fa_le, fa_eq, (by decide : (21 : Int32).toInt = 21)] at ha hb_ c_63; simp only [rg]; omega
    refine lv_iload_n hx hb dX1_joined_116 rfl (lv_at hl 1 rfl) ?_
    refine lv_iload_n hx hb dX1_joined_117 rfl (lv_at hl 2 rfl) ?_
    refine lv_icmp_ge (tgt := 125) hx hb dX1_joined_118 (by decide) (fun c_65 => ?_) (fun c_65 => ?_)
    · skip
      refine lv_iconst (v := 0) hx hb dX1_joined_125 (by decide) ?_
      have hP9 := hP.sub (ws' := []) [] rfl
      have hD9 := hD.sub (ws' := []) [] (by decide) rfl
      exact W.iret (v := 0) hx hb hr (fun t ht hW => ⟨⟨0, (), rfl, trivial, ⟨by rw [ht]; exact hP9, hD9⟩⟩, hS.F ht⟩) hS.2.2 dX1_joined_126
    · skip
      have h_66 : rg (-2147483648) (2147483646) p1 := by have ha := (rg_any p1); have hb_ := (rg_any p2); simp only [rg, fa_lt, fa_le, fa_eq] at ha hb_ c_65; simp only [rg]; omega
      have h_67 : rg (-2147483647) (2147483647) p2 := by have ha := h_66; have hb_ := (rg_any p2); have hc_ := c_65; simp only [rg, fa_lt, fa_le, fa_eq] at ha hb_ hc_; simp only [rg]; omega
      have h_68 : rg (-2147483647) (2147483647) p2 := by have ha := (rg_any p1); have hb_ := (rg_any p2); simp only [rg, fa_lt, fa_le, fa_eq] at ha hb_ c_65; simp only [rg]; omega
      refine lv_iconst (v := 1) hx hb dX1_joined_121 (by decide) ?_
      refine lv_goto (tgt := 126) hx hb dX1_joined_122 (by decide) ?_
      have hP9 := hP.sub (ws' := []) [] rfl
      have hD9 := hD.sub (ws' := []) [] (by decide) rfl
      exact W.iret (v := 1) hx hb hr (fun t ht hW => ⟨⟨1, (), rfl, trivial, ⟨by rw [ht]; exact hP9, hD9⟩⟩, hS.F ht⟩) hS.2.2 dX1_joined_126
  by_cases c_69 : p0 = 22
  · skip
    refine tp_v (.int 22) (congrArg Value.int (c_69)) ?_
    refine lv_tableIn (off := 126) (tgt := 127) hx hb dX1_joined_1 (by decide) (by decide) (by decide) (by decide) ?_
    have h_70 : rg (22) (22) p0 := by have ha := (rg_any p0); have hb_ := (rg_k (x := 22) (c := 22) (by decide)); simp only [rg, fa_lt, fa_le, fa_eq, (by decide : (22 : Int32).toInt = 22)] at ha hb_ c_69; simp only [rg]; omega
    refine lv_iload_n hx hb dX1_joined_127 rfl (lv_at hl 1 rfl) ?_
    refine lv_iload_n hx hb dX1_joined_128 rfl (lv_at hl 2 rfl) ?_
    refine lv_icmp_le (tgt := 136) hx hb dX1_joined_129 (by decide) (fun c_71 => ?_) (fun c_71 => ?_)
    · skip
      refine lv_iconst (v := 0) hx hb dX1_joined_136 (by decide) ?_
      have hP9 := hP.sub (ws' := []) [] rfl
      have hD9 := hD.sub (ws' := []) [] (by decide) rfl
      exact W.iret (v := 0) hx hb hr (fun t ht hW => ⟨⟨0, (), rfl, trivial, ⟨by rw [ht]; exact hP9, hD9⟩⟩, hS.F ht⟩) hS.2.2 dX1_joined_137
    · skip
      have h_72 : rg (-2147483647) (2147483647) p1 := by have ha := (rg_any p1); have hb_ := (rg_any p2); simp only [rg, fa_lt, fa_le, fa_eq] at ha hb_ c_71; simp only [rg]; omega
      have h_73 : rg (-2147483648) (2147483646) p2 := by have ha := h_72; have hb_ := (rg_any p2); have hc_ := c_71; simp only [rg, fa_lt, fa_le, fa_eq] at ha hb_ hc_; simp only [rg]; omega
      have h_74 : rg (-2147483648) (2147483646) p2 := by have ha := (rg_any p1); have hb_ := (rg_any p2); simp only [rg, fa_lt, fa_le, fa_eq] at ha hb_ c_71; simp only [rg]; omega
      refine lv_iconst (v := 1) hx hb dX1_joined_132 (by decide) ?_
      refine lv_goto (tgt := 137) hx hb dX1_joined_133 (by decide) ?_
      have hP9 := hP.sub (ws' := []) [] rfl
      have hD9 := hD.sub (ws' := []) [] (by decide) rfl
      exact W.iret (v := 1) hx hb hr (fun t ht hW => ⟨⟨1, (), rfl, trivial, ⟨by rw [ht]; exact hP9, hD9⟩⟩, hS.F ht⟩) hS.2.2 dX1_joined_137
  by_cases c_75 : p0 = 23
  · skip
    refine tp_v (.int 23) (congrArg Value.int (c_75)) ?_
    refine lv_tableIn (off := 137) (tgt := 138) hx hb dX1_joined_1 (by decide) (by decide) (by decide) (by decide) ?_
    have h_76 : rg (23) (23) p0 := by have ha := (rg_any p0); have hb_ := (rg_k (x := 23) (c := 23) (by decide)); simp only [rg, fa_lt, fa_le, fa_eq, (by decide : (23 : Int32).toInt = 23)] at ha hb_ c_75; simp only [rg]; omega
    refine lv_iload_n hx hb dX1_joined_138 rfl (lv_at hl 1 rfl) ?_
    refine lv_iload_n hx hb dX1_joined_139 rfl (lv_at hl 2 rfl) ?_
    refine lv_icmp_ne (tgt := 147) hx hb dX1_joined_140 (by decide) (fun c_77 => ?_) (fun c_77 => ?_)
    · skip
      refine lv_iconst (v := 0) hx hb dX1_joined_147 (by decide) ?_
      have hP9 := hP.sub (ws' := []) [] rfl
      have hD9 := hD.sub (ws' := []) [] (by decide) rfl
      exact W.iret (v := 0) hx hb hr (fun t ht hW => ⟨⟨0, (), rfl, trivial, ⟨by rw [ht]; exact hP9, hD9⟩⟩, hS.F ht⟩) hS.2.2 dX1_joined_148
    · skip
      refine lv_iconst (v := 1) hx hb dX1_joined_143 (by decide) ?_
      refine lv_goto (tgt := 148) hx hb dX1_joined_144 (by decide) ?_
      have hP9 := hP.sub (ws' := []) [] rfl
      have hD9 := hD.sub (ws' := []) [] (by decide) rfl
      exact W.iret (v := 1) hx hb hr (fun t ht hW => ⟨⟨1, (), rfl, trivial, ⟨by rw [ht]; exact hP9, hD9⟩⟩, hS.F ht⟩) hS.2.2 dX1_joined_148
  by_cases c_78 : p0 = 24
  · skip
    refine tp_v (.int 24) (congrArg Value.int (c_78)) ?_
    refine lv_tableIn (off := 148) (tgt := 149) hx hb dX1_joined_1 (by decide) (by decide) (by decide) (by decide) ?_
    have h_79 : rg (24) (24) p0 := by have ha := (rg_any p0); have hb_ := (rg_k (x := 24) (c := 24) (by decide)); simp only [rg, fa_lt, fa_le, fa_eq, (by decide : (24 : Int32).toInt = 24)] at ha hb_ c_78; simp only [rg]; omega
    refine lv_iload_n hx hb dX1_joined_149 rfl (lv_at hl 1 rfl) ?_
    refine lv_iload_n hx hb dX1_joined_150 rfl (lv_at hl 2 rfl) ?_
    refine lv_iadd hx hb dX1_joined_151 ?_
    refine lv_topi (fun x_80 ex_80 => ?_)
    have hP9 := hP.sub (ws' := []) [] rfl
    have hD9 := hD.sub (ws' := []) [] (by decide) rfl
    exact W.iret (v := x_80) hx hb hr (fun t ht hW => ⟨⟨x_80, (), rfl, trivial, ⟨by rw [ht]; exact hP9, hD9⟩⟩, hS.F ht⟩) hS.2.2 dX1_joined_152
  by_cases c_81 : p0 = 25
  · skip
    refine tp_v (.int 25) (congrArg Value.int (c_81)) ?_
    refine lv_tableIn (off := 152) (tgt := 153) hx hb dX1_joined_1 (by decide) (by decide) (by decide) (by decide) ?_
    have h_82 : rg (25) (25) p0 := by have ha := (rg_any p0); have hb_ := (rg_k (x := 25) (c := 25) (by decide)); simp only [rg, fa_lt, fa_le, fa_eq, (by decide : (25 : Int32).toInt = 25)] at ha hb_ c_81; simp only [rg]; omega
    refine lv_iload_n hx hb dX1_joined_153 rfl (lv_at hl 1 rfl) ?_
    refine lv_iload_n hx hb dX1_joined_154 rfl (lv_at hl 2 rfl) ?_
    refine lv_isub hx hb dX1_joined_155 ?_
    refine lv_topi (fun x_83 ex_83 => ?_)
    have hP9 := hP.sub (ws' := []) [] rfl
    have hD9 := hD.sub (ws' := []) [] (by decide) rfl
    exact W.iret (v := x_83) hx hb hr (fun t ht hW => ⟨⟨x_83, (), rfl, trivial, ⟨by rw [ht]; exact hP9, hD9⟩⟩, hS.F ht⟩) hS.2.2 dX1_joined_156
  by_cases c_84 : p0 = 26
  · skip
    refine tp_v (.int 26) (congrArg Value.int (c_84)) ?_
    refine lv_tableIn (off := 156) (tgt := 157) hx hb dX1_joined_1 (by decide) (by decide) (by decide) (by decide) ?_
    have h_85 : rg (26) (26) p0 := by have ha := (rg_any p0); have hb_ := (rg_k (x := 26) (c := 26) (by decide)); simp only [rg, fa_lt, fa_le, fa_eq, (by decide : (26 : Int32).toInt = 26)] at ha hb_ c_84; simp only [rg]; omega
    refine lv_iload_n hx hb dX1_joined_157 rfl (lv_at hl 1 rfl) ?_
    refine lv_iload_n hx hb dX1_joined_158 rfl (lv_at hl 2 rfl) ?_
    refine lv_imul hx hb dX1_joined_159 ?_
    refine lv_topi (fun x_86 ex_86 => ?_)
    have hP9 := hP.sub (ws' := []) [] rfl
    have hD9 := hD.sub (ws' := []) [] (by decide) rfl
    exact W.iret (v := x_86) hx hb hr (fun t ht hW => ⟨⟨x_86, (), rfl, trivial, ⟨by rw [ht]; exact hP9, hD9⟩⟩, hS.F ht⟩) hS.2.2 dX1_joined_160
  refine lv_tableOut (tgt := 161) hx hb dX1_joined_1 (by have ha := (rg_any p0); simp only [rg, fa_eq, (by decide : (9 : Int32).toInt = 9), (by decide : (10 : Int32).toInt = 10), (by decide : (11 : Int32).toInt = 11), (by decide : (12 : Int32).toInt = 12), (by decide : (13 : Int32).toInt = 13), (by decide : (14 : Int32).toInt = 14), (by decide : (15 : Int32).toInt = 15), (by decide : (16 : Int32).toInt = 16), (by decide : (17 : Int32).toInt = 17), (by decide : (18 : Int32).toInt = 18), (by decide : (19 : Int32).toInt = 19), (by decide : (20 : Int32).toInt = 20), (by decide : (21 : Int32).toInt = 21), (by decide : (22 : Int32).toInt = 22), (by decide : (23 : Int32).toInt = 23), (by decide : (24 : Int32).toInt = 24), (by decide : (25 : Int32).toInt = 25), (by decide : (26 : Int32).toInt = 26)] at ha c_1 c_7 c_13 c_18 c_23 c_28 c_33 c_38 c_43 c_48 c_53 c_58 c_63 c_69 c_75 c_78 c_81 c_84; omega) (by decide) ?_
  refine lv_iload_n hx hb dX1_joined_161 rfl (lv_at hl 2 rfl) ?_
  refine lv_if_ne (tgt := 169) hx hb dX1_joined_162 (by decide) (fun c_87 => ?_) (fun c_87 => ?_)
  · skip
    refine lv_iload_n hx hb dX1_joined_169 rfl (lv_at hl 1 rfl) ?_
    refine lv_iload_n hx hb dX1_joined_170 rfl (lv_at hl 2 rfl) ?_
    refine lv_idiv hx hb dX1_joined_171 c_87 ?_
    refine lv_topi (fun x_88 ex_88 => ?_)
    have hP9 := hP.sub (ws' := []) [] rfl
    have hD9 := hD.sub (ws' := []) [] (by decide) rfl
    exact W.iret (v := x_88) hx hb hr (fun t ht hW => ⟨⟨x_88, (), rfl, trivial, ⟨by rw [ht]; exact hP9, hD9⟩⟩, hS.F ht⟩) hS.2.2 dX1_joined_172
  · skip
    have h_89 : rg (0) (0) p2 := by have ha := (rg_any p2); have hb_ := (rg_k (x := 0) (c := 0) (by decide)); simp only [rg, fa_lt, fa_le, fa_eq, (by decide : (0 : Int32).toInt = 0)] at ha hb_ c_87; simp only [rg]; omega
    refine lv_iconst (v := 0) hx hb dX1_joined_165 (by decide) ?_
    refine lv_goto (tgt := 172) hx hb dX1_joined_166 (by decide) ?_
    have hP9 := hP.sub (ws' := []) [] rfl
    have hD9 := hD.sub (ws' := []) [] (by decide) rfl
    exact W.iret (v := 0) hx hb hr (fun t ht hW => ⟨⟨0, (), rfl, trivial, ⟨by rw [ht]; exact hP9, hD9⟩⟩, hS.F ht⟩) hS.2.2 dX1_joined_172
def v_s_X1_look : List Cond := Cond.code yX1_look cX1_look 3 none :: ([Cond.fieldLink RX1 18 "MayRings$Law" "facts" "[I"] ++ (wsX10 ++ ([])))
theorem k_s_X1_look : GoodIn lw_tbl v_s_X1_look := gd_c (List.mem_of_getElem? (i := 808) (by decide +kernel)) rfl (goodIn_app (gd_c (List.mem_of_getElem? (i := 185) (by decide +kernel)) rfl (gd_nil)) (goodIn_app kfX1 (gd_nil)))
set_option maxHeartbeats 2000000 in
set_option maxRecDepth 100000 in
theorem c_s_X1_look (l : Launch) (dC : Nat → ClassId) (dI : Nat → Nat → Nat) (cB cI cJ cZ cP : ClassId) (h0 : Nat) (h1 : Nat) (h2 : Nat) (h3 : Nat) (g2 : Nat → Int32) (a0 : Int32) (a1 : Int32) (a2 : Int32) (p0 : Int32) (p1 : Int32) (sz : Nat) : Met l yX1_look v_s_X1_look ({ frames := 0, cells := 0, slots := 0, locals := 0 }) (va_Pc [.ref h0, .int p0, .int p1] (fun U => U.heap.size = sz ∧ va_P (dC, dI) vwCl [(h0, .inr (1, [.ref h1, .ref h2, .ref h3, .int a0, .int a1, .int a2])), (h3, .inl (cI, 16, .inl g2))] U.heap ∧ va_K (dC, dI) vwCl (ty5 cB cI cJ cZ cP) U ∧ va_D (fun _ => True) [(h0, .inr (1, [.ref h1, .ref h2, .ref h3, .int a0, .int a1, .int a2])), (h3, .inl (cI, 16, .inl g2))])) (va_Qv (fun _ : Unit => True) (fun _ t => ∃ (z0 : Nat → Int32), va_P (dC, dI) vwCl [(h0, .inr (1, [.ref h1, .ref h2, .ref h3, .int a0, .int a1, .int a2])), (h3, .inl (cI, 16, .inl z0))] t.heap ∧ va_D (va_A [(h0, .inr (1, [.ref h1, .ref h2, .ref h3, .int a0, .int a1, .int a2])), (h3, .inl (cI, 16, .inl g2))] sz) [(h0, .inr (1, [.ref h1, .ref h2, .ref h3, .int a0, .int a1, .int a2])), (h3, .inl (cI, 16, .inl z0))]) (va_A [(h0, .inr (1, [.ref h1, .ref h2, .ref h3, .int a0, .int a1, .int a2])), (h3, .inl (cI, 16, .inl g2))] sz)) 0 0 (va_A [(h0, .inr (1, [.ref h1, .ref h2, .ref h3, .int a0, .int a1, .int a2])), (h3, .inl (cI, 16, .inl g2))] sz) := by
  refine Met.ofW (cc := cX1_look) (maxL := 3) (ret := none) (by decide) rfl ?_
  intro p e s m args below meth c s₁ B hml hv
  obtain ⟨rfl, hsz, hP, hK, hD0⟩ := hv
  have hx := B.exec
  have hb := B.bytes
  have hr := B.returns
  have hts := atoms_spec (ws := v_s_X1_look) B.pre
  have hown : s.vm.findClass RX1 = some m.cls := findClass_of_methodNamed B.named
  have hlocks := B.notSynchronized
  have hinX1 : ∀ w ∈ wsX10, w ∈ v_s_X1_look := fun _ h => List.mem_cons_of_mem _ (List.mem_append_right _ (List.mem_append_left _ h))
  subst hsz
  have hD := hD0.self (sz := s.heap.size)
  generalize hAe : va_A [(h0, .inr (1, [.ref h1, .ref h2, .ref h3, .int a0, .int a1, .int a2])), (h3, .inl (cI, 16, .inl g2))] s.heap.size = A at hD ⊢
  have hA : ∀ q : Nat, s.heap.size ≤ q → A q := fun q h => by rw [← hAe]; exact Or.inr h
  have hP : va_P (dC, dI) vwCl [(h0, .inr (1, [.ref h1, .ref h2, .ref h3, .int a0, .int a1, .int a2])), (h3, .inl (cI, 16, .inl g2))] s.heap := hP
  have hl := lv_entry ([.ref h0, .int p0, .int p1]) (n := 3) (Nat.le_of_ble_eq_true rfl)
  rw [lg_entry_eq]
  generalize (lg_sl ([.ref h0, .int p0, .int p1]) ++ List.replicate (3 - (lg_sl ([.ref h0, .int p0, .int p1])).length) Slot.unset).toArray = ls at hl ⊢
  have hl : lv_has ls 3 [(0, .ref h0), (1, .int p0), (2, .int p1)] := hl
  refine W_gen (A := A) hP (fun H locs hP hS => ?_)
  refine lv_iload_n hx hb dX1_look_0 rfl (lv_at hl 1 rfl) ?_
  refine lv_if_lt (tgt := 17) hx hb dX1_look_1 (by decide) (fun c_1 => ?_) (fun c_1 => ?_)
  · skip
    have h_2 : rg (-2147483648) (-1) p0 := by have ha := (rg_any p0); have hb_ := (rg_k (x := 0) (c := 0) (by decide)); simp only [rg, fa_lt, fa_le, fa_eq, (by decide : (0 : Int32).toInt = 0)] at ha hb_ c_1; simp only [rg]; omega
    have hP9 := hP.sub (ws' := [(h0, .inr (1, [.ref h1, .ref h2, .ref h3, .int a0, .int a1, .int a2])), (h3, .inl (cI, 16, .inl g2))]) [0, 1] rfl
    have hD9 := hD.sub (ws' := [(h0, .inr (1, [.ref h1, .ref h2, .ref h3, .int a0, .int a1, .int a2])), (h3, .inl (cI, 16, .inl g2))]) [0, 1] (by decide) rfl
    exact W.vret hx hb hr (fun t ht hW => ⟨⟨(), rfl, trivial, ⟨g2, by rw [ht]; exact hP9, hD9⟩⟩, hS.F ht⟩) hS.2.2 dX1_look_17
  · skip
    have h_3 : rg (0) (2147483647) p0 := by have ha := (rg_any p0); have hb_ := (rg_k (x := 0) (c := 0) (by decide)); simp only [rg, fa_lt, fa_le, fa_eq, (by decide : (0 : Int32).toInt = 0)] at ha hb_ c_1; simp only [rg]; omega
    refine lv_iload_n hx hb dX1_look_4 rfl (lv_at hl 1 rfl) ?_
    refine lv_bipush (v := 15) hx hb dX1_look_5 (by decide) ?_
    refine lv_icmp_gt (tgt := 17) hx hb dX1_look_7 (by decide) (fun c_4 => ?_) (fun c_4 => ?_)
    · skip
      have h_5 : rg (16) (2147483647) p0 := by have ha := h_3; have hb_ := (rg_k (x := 15) (c := 15) (by decide)); simp only [rg, fa_lt, fa_le, fa_eq, (by decide : (15 : Int32).toInt = 15)] at ha hb_ c_4; simp only [rg]; omega
      have hP9 := hP.sub (ws' := [(h0, .inr (1, [.ref h1, .ref h2, .ref h3, .int a0, .int a1, .int a2])), (h3, .inl (cI, 16, .inl g2))]) [0, 1] rfl
      have hD9 := hD.sub (ws' := [(h0, .inr (1, [.ref h1, .ref h2, .ref h3, .int a0, .int a1, .int a2])), (h3, .inl (cI, 16, .inl g2))]) [0, 1] (by decide) rfl
      exact W.vret hx hb hr (fun t ht hW => ⟨⟨(), rfl, trivial, ⟨g2, by rw [ht]; exact hP9, hD9⟩⟩, hS.F ht⟩) hS.2.2 dX1_look_17
    · skip
      have h_6 : rg (0) (15) p0 := by have ha := h_3; have hb_ := (rg_k (x := 15) (c := 15) (by decide)); simp only [rg, fa_lt, fa_le, fa_eq, (by decide : (15 : Int32).toInt = 15)] at ha hb_ c_4; simp only [rg]; omega
      refine lv_aload_n hx hb dX1_look_10 rfl (lv_at hl 0 rfl) ?_
      refine va_get (D := (dC, dI)) (ci := 1) (v := .ref h3) (C := RX1) (T := TX1) (N := 6) hx hb hts hinX1 hown hK hP 0 rfl rfl 2 (by decide) (hts (.fieldLink RX1 18 "MayRings$Law" "facts" "[I") (List.mem_of_getElem? (i := 1) rfl)) (fun _ h9 => h9) rfl dX1_look_11 ?_
      refine lv_iload_n hx hb dX1_look_14 rfl (lv_at hl 1 rfl) ?_
      refine lv_iload_n hx hb dX1_look_15 rfl (lv_at hl 2 rfl) ?_
      refine va_iast hx hb hK hP hD hS 1 1 rfl rfl (rg_in (n := 16) (rg_mono h_6 (by decide) (by decide))) dX1_look_16 (fun H locs hP hD hS => ?_)
      obtain ⟨f_7, ef_7⟩ : ∃ f : Nat → Int32, f = upd g2 (p0 : Int32).toNatClampNeg p1 := ⟨_, rfl⟩
      rw [← ef_7] at hP hD
      clear ef_7
      replace hP : va_P (dC, dI) vwCl [(h0, .inr (1, [.ref h1, .ref h2, .ref h3, .int a0, .int a1, .int a2])), (h3, .inl (cI, 16, .inl f_7))] H := hP
      replace hD : va_D A [(h0, .inr (1, [.ref h1, .ref h2, .ref h3, .int a0, .int a1, .int a2])), (h3, .inl (cI, 16, .inl f_7))] := hD
      have hP9 := hP.sub (ws' := [(h0, .inr (1, [.ref h1, .ref h2, .ref h3, .int a0, .int a1, .int a2])), (h3, .inl (cI, 16, .inl f_7))]) [0, 1] rfl
      have hD9 := hD.sub (ws' := [(h0, .inr (1, [.ref h1, .ref h2, .ref h3, .int a0, .int a1, .int a2])), (h3, .inl (cI, 16, .inl f_7))]) [0, 1] (by decide) rfl
      exact W.vret hx hb hr (fun t ht hW => ⟨⟨(), rfl, trivial, ⟨f_7, by rw [ht]; exact hP9, hD9⟩⟩, hS.F ht⟩) hS.2.2 dX1_look_17
