def v_s_X0_areTwins : List Cond := Cond.code yX0_areTwins cX0_areTwins 7 (some .boolean) :: ([Cond.fieldLink RX0 78 "MayRings$Ways" "pairs" "[I", Cond.fieldLink RX0 37 "MayRings$Families" "size" "I", Cond.fieldLink RX0 67 "MayRings$Ways" "ground" "[I"] ++ (wsX00 ++ (wsX70 ++ ([]))))
theorem k_s_X0_areTwins : GoodIn lw_tbl v_s_X0_areTwins := gd_c (List.mem_of_getElem? (i := 1042) (by decide +kernel)) rfl (goodIn_app (gd_c (List.mem_of_getElem? (i := 444) (by decide +kernel)) rfl (gd_c (List.mem_of_getElem? (i := 508) (by decide +kernel)) rfl (gd_c (List.mem_of_getElem? (i := 441) (by decide +kernel)) rfl (gd_nil)))) (goodIn_app kfX0 (goodIn_app kfX7 (gd_nil))))
set_option maxHeartbeats 2000000 in
set_option maxRecDepth 100000 in
theorem c_s_X0_areTwins (l : Launch) (dC : Nat → ClassId) (dI : Nat → Nat → Nat) (cB cI cJ cZ cP : ClassId) (h0 : Nat) (h1 : Nat) (h2 : Nat) (h3 : Nat) (h4 : Nat) (h5 : Nat) (h6 : Nat) (a0 : Int32) (a1 : Int32) (a2 : Int32) (ha2 : rg (0) (9) a2) (a3 : Int32) (h7 : Nat) (h8 : Nat) (g6 : Nat → Int32) (hg6 : rgA (0) (511) g6) (h9 : Nat) (g7 : Nat → Int32) (hg7 : rgA (0) (511) g7) (h10 : Nat) (h11 : Nat) (h12 : Nat) (h13 : Nat) (a4 : Int32) (a5 : Int32) (a6 : Int32) (a7 : Int32) (a8 : Int32) (a9 : Int32) (a10 : Int32) (a11 : Int32) (p1 : Int32) (hp1 : rg (0) (8) p1) (p2 : Int32) (hp2 : rg (0) (8) p2) (sz : Nat) : Met l yX0_areTwins v_s_X0_areTwins ({ frames := 0, cells := 0, slots := 0, locals := 0 }) (va_Pc [.ref h0, .ref h7, .int p1, .int p2] (fun U => U.heap.size = sz ∧ va_P (dC, dI) vwCl [(h0, .inr (0, [.ref h1, .ref h2, .ref h3, .ref h4, .ref h5, .ref h6, .int a0, .int a1, .int a2, .int a3])), (h7, .inr (7, [.ref h8, .ref h9, .ref h10, .ref h11, .ref h12, .ref h13, .int a4, .int a5, .int a6, .int a7, .int a8, .int a9, .int a10, .int a11])), (h8, .inl (cI, 9, .inl g6)), (h9, .inl (cI, 9, .inl g7))] U.heap ∧ va_K (dC, dI) vwCl (ty5 cB cI cJ cZ cP) U ∧ va_D (fun _ => True) [(h0, .inr (0, [.ref h1, .ref h2, .ref h3, .ref h4, .ref h5, .ref h6, .int a0, .int a1, .int a2, .int a3])), (h7, .inr (7, [.ref h8, .ref h9, .ref h10, .ref h11, .ref h12, .ref h13, .int a4, .int a5, .int a6, .int a7, .int a8, .int a9, .int a10, .int a11])), (h8, .inl (cI, 9, .inl g6)), (h9, .inl (cI, 9, .inl g7))])) (va_Qi (fun (r : Int32) (u9 : Unit) => rg (0) (1) r) (fun u9 t => va_P (dC, dI) vwCl [(h0, .inr (0, [.ref h1, .ref h2, .ref h3, .ref h4, .ref h5, .ref h6, .int a0, .int a1, .int a2, .int a3])), (h7, .inr (7, [.ref h8, .ref h9, .ref h10, .ref h11, .ref h12, .ref h13, .int a4, .int a5, .int a6, .int a7, .int a8, .int a9, .int a10, .int a11])), (h8, .inl (cI, 9, .inl g6)), (h9, .inl (cI, 9, .inl g7))] t.heap ∧ va_D (va_A [(h0, .inr (0, [.ref h1, .ref h2, .ref h3, .ref h4, .ref h5, .ref h6, .int a0, .int a1, .int a2, .int a3])), (h7, .inr (7, [.ref h8, .ref h9, .ref h10, .ref h11, .ref h12, .ref h13, .int a4, .int a5, .int a6, .int a7, .int a8, .int a9, .int a10, .int a11])), (h8, .inl (cI, 9, .inl g6)), (h9, .inl (cI, 9, .inl g7))] sz) [(h0, .inr (0, [.ref h1, .ref h2, .ref h3, .ref h4, .ref h5, .ref h6, .int a0, .int a1, .int a2, .int a3])), (h7, .inr (7, [.ref h8, .ref h9, .ref h10, .ref h11, .ref h12, .ref h13, .int a4, .int a5, .int a6, .int a7, .int a8, .int a9, .int a10, .int a11])), (h8, .inl (cI, 9, .inl g6)), (h9, .inl (cI, 9, .inl g7))]) (va_A [(h0, .inr (0, [.ref h1, .ref h2, .ref h3, .ref h4, .ref h5, .ref h6, .int a0, .int a1, .int a2, .int a3])), (h7, .inr (7, [.ref h8, .ref h9, .ref h10, .ref h11, .ref h12, .ref h13, .int a4, .int a5, .int a6, .int a7, .int a8, .int a9, .int a10, .int a11])), (h8, .inl (cI, 9, .inl g6)), (h9, .inl (cI, 9, .inl g7))] sz)) 0 0 (va_A [(h0, .inr (0, [.ref h1, .ref h2, .ref h3, .ref h4, .ref h5, .ref h6, .int a0, .int a1, .int a2, .int a3])), (h7, .inr (7, [.ref h8, .ref h9, .ref h10, .ref h11, .ref h12, .ref h13, .int a4, .int a5, .int a6, .int a7, .int a8, .int a9, .int a10, .int a11])), (h8, .inl (cI, 9, .inl g6)), (h9, .inl (cI, 9, .inl g7))] sz) := by
  refine Met.ofW (cc := cX0_areTwins) (maxL := 7) (ret := (some .boolean)) (by decide) rfl ?_
  intro p e s m args below meth c s₁ B hml hv
  obtain ⟨rfl, hsz, hP, hK, hD0⟩ := hv
  have hx := B.exec
  have hb := B.bytes
  have hr := B.returns
  have hts := atoms_spec (ws := v_s_X0_areTwins) B.pre
  have hown : s.vm.findClass RX0 = some m.cls := findClass_of_methodNamed B.named
  have hlocks := B.notSynchronized
  have hinX0 : ∀ w ∈ wsX00, w ∈ v_s_X0_areTwins := fun _ h => List.mem_cons_of_mem _ (List.mem_append_right _ (List.mem_append_left _ h))
  have hinX7 : ∀ w ∈ wsX70, w ∈ v_s_X0_areTwins := fun _ h => List.mem_cons_of_mem _ (List.mem_append_right _ (List.mem_append_right _ (List.mem_append_left _ h)))
  subst hsz
  have hD := hD0.self (sz := s.heap.size)
  generalize hAe : va_A [(h0, .inr (0, [.ref h1, .ref h2, .ref h3, .ref h4, .ref h5, .ref h6, .int a0, .int a1, .int a2, .int a3])), (h7, .inr (7, [.ref h8, .ref h9, .ref h10, .ref h11, .ref h12, .ref h13, .int a4, .int a5, .int a6, .int a7, .int a8, .int a9, .int a10, .int a11])), (h8, .inl (cI, 9, .inl g6)), (h9, .inl (cI, 9, .inl g7))] s.heap.size = A at hD ⊢
  have hA : ∀ q : Nat, s.heap.size ≤ q → A q := fun q h => by rw [← hAe]; exact Or.inr h
  have hP : va_P (dC, dI) vwCl [(h0, .inr (0, [.ref h1, .ref h2, .ref h3, .ref h4, .ref h5, .ref h6, .int a0, .int a1, .int a2, .int a3])), (h7, .inr (7, [.ref h8, .ref h9, .ref h10, .ref h11, .ref h12, .ref h13, .int a4, .int a5, .int a6, .int a7, .int a8, .int a9, .int a10, .int a11])), (h8, .inl (cI, 9, .inl g6)), (h9, .inl (cI, 9, .inl g7))] s.heap := hP
  have hl := lv_entry ([.ref h0, .ref h7, .int p1, .int p2]) (n := 7) (Nat.le_of_ble_eq_true rfl)
  rw [lg_entry_eq]
  generalize (lg_sl ([.ref h0, .ref h7, .int p1, .int p2]) ++ List.replicate (7 - (lg_sl ([.ref h0, .ref h7, .int p1, .int p2])).length) Slot.unset).toArray = ls at hl ⊢
  have hl : lv_has ls 7 [(0, .ref h0), (1, .ref h7), (2, .int p1), (3, .int p2)] := hl
  refine W_gen (A := A) hP (fun H locs hP hS => ?_)
  refine lv_iconst (v := 1) hx hb dX0_areTwins_0 (by decide) ?_
  refine lv_iload_n hx hb dX0_areTwins_1 rfl (lv_at hl 2 rfl) ?_
  refine lv_ishl hx hb dX0_areTwins_2 ?_
  refine lv_topi (fun x_1 ex_1 => ?_)
  have hx_1 : rg (1) (256) x_1 := by rw [ex_1]; exact rg_mono (rg_shl1 8 (rg_mono hp1 (by decide) (by decide)) (by decide)) (by decide) (by decide)
  refine lv_iconst (v := 1) hx hb dX0_areTwins_3 (by decide) ?_
  refine lv_iload_n hx hb dX0_areTwins_4 rfl (lv_at hl 3 rfl) ?_
  refine lv_ishl hx hb dX0_areTwins_5 ?_
  refine lv_topi (fun x_2 ex_2 => ?_)
  have hx_2 : rg (1) (256) x_2 := by rw [ex_2]; exact rg_mono (rg_shl1 8 (rg_mono hp2 (by decide) (by decide)) (by decide)) (by decide) (by decide)
  refine lv_ior hx hb dX0_areTwins_6 ?_
  refine lv_topi (fun x_3 ex_3 => ?_)
  have hx_3 : rg (0) (511) x_3 := by rw [ex_3]; exact rg_mono (rg_or 9 (rg_mono hx_1 (by decide) (by decide)) (rg_mono hx_2 (by decide) (by decide)) (by decide)) (by decide) (by decide)
  refine lv_iconst (v := (-1)) hx hb dX0_areTwins_7 (by decide) ?_
  refine lv_ixor hx hb dX0_areTwins_8 ?_
  refine lv_topi (fun x_4 ex_4 => ?_)
  refine lv_istore (lv' := [(4, .int x_4), (0, .ref h0), (1, .ref h7), (2, .int p1), (3, .int p2)]) hx hb dX0_areTwins_9 hl (by decide) rfl (fun ls hl => ?_)
  refine lv_aload_n hx hb dX0_areTwins_11 rfl (lv_at hl 2 rfl) ?_
  refine va_get (D := (dC, dI)) (ci := 7) (v := .ref h9) (C := RX7) (T := TX7) (N := 14) hx hb hts hinX7 hown hK hP 1 rfl rfl 1 (by decide) (hts (.fieldLink RX0 78 "MayRings$Ways" "pairs" "[I") (List.mem_of_getElem? (i := 1) rfl)) (fun _ h9 => h9) rfl dX0_areTwins_12 ?_
  refine lv_iload_n hx hb dX0_areTwins_15 rfl (lv_at hl 3 rfl) ?_
  refine va_iald hx hb hK hP 3 1 rfl rfl (rg_in (n := 9) (rg_mono hp1 (by decide) (by decide))) dX0_areTwins_16 ?_
  refine lv_topi (fun x_5 ex_5 => ?_)
  have hx_5 : rg (0) (511) x_5 := by rw [ex_5]; exact rg_mono (hg7 _) (by decide) (by decide)
  refine lv_iload hx hb dX0_areTwins_17 (lv_at hl 0 rfl) ?_
  refine lv_iand hx hb dX0_areTwins_19 ?_
  refine lv_topi (fun x_6 ex_6 => ?_)
  have hx_6 : rg (0) (511) x_6 := by rw [ex_6]; exact rg_mono (rg_andl (b := 511) (rg_mono hx_5 (by decide) (by decide))) (by decide) (by decide)
  have kx_6_0 : rg 1 2147483647 x_6 → rg 1 (511) x_5 := fun hq => rg_andP hx_5 (ex_6 ▸ hq)
  refine lv_aload_n hx hb dX0_areTwins_20 rfl (lv_at hl 2 rfl) ?_
  refine va_get (D := (dC, dI)) (ci := 7) (v := .ref h9) (C := RX7) (T := TX7) (N := 14) hx hb hts hinX7 hown hK hP 1 rfl rfl 1 (by decide) (hts (.fieldLink RX0 78 "MayRings$Ways" "pairs" "[I") (List.mem_of_getElem? (i := 1) rfl)) (fun _ h9 => h9) rfl dX0_areTwins_21 ?_
  refine lv_iload_n hx hb dX0_areTwins_24 rfl (lv_at hl 4 rfl) ?_
  refine va_iald hx hb hK hP 3 1 rfl rfl (rg_in (n := 9) (rg_mono hp2 (by decide) (by decide))) dX0_areTwins_25 ?_
  refine lv_topi (fun x_7 ex_7 => ?_)
  have hx_7 : rg (0) (511) x_7 := by rw [ex_7]; exact rg_mono (hg7 _) (by decide) (by decide)
  refine lv_iload hx hb dX0_areTwins_26 (lv_at hl 0 rfl) ?_
  refine lv_iand hx hb dX0_areTwins_28 ?_
  refine lv_topi (fun x_8 ex_8 => ?_)
  have hx_8 : rg (0) (511) x_8 := by rw [ex_8]; exact rg_mono (rg_andl (b := 511) (rg_mono hx_7 (by decide) (by decide))) (by decide) (by decide)
  have kx_8_0 : rg 1 2147483647 x_8 → rg 1 (511) x_7 := fun hq => rg_andP hx_7 (ex_8 ▸ hq)
  refine lv_icmp_ne (tgt := 36) hx hb dX0_areTwins_29 (by decide) (fun c_9 => ?_) (fun c_9 => ?_)
  · skip
    refine lv_iconst (v := 0) hx hb dX0_areTwins_36 (by decide) ?_
    refine lv_istore (lv' := [(5, .int 0), (4, .int x_4), (0, .ref h0), (1, .ref h7), (2, .int p1), (3, .int p2)]) hx hb dX0_areTwins_37 hl (by decide) rfl (fun ls hl => ?_)
    refine lv_iconst (v := 0) hx hb dX0_areTwins_39 (by decide) ?_
    refine lv_istore (lv' := [(6, .int 0), (5, .int 0), (4, .int x_4), (0, .ref h0), (1, .ref h7), (2, .int p1), (3, .int p2)]) hx hb dX0_areTwins_40 hl (by decide) rfl (fun ls hl => ?_)
    refine W_loopM (σ := Int32) (fun u H locs ls => va_P (dC, dI) vwCl [(h0, .inr (0, [.ref h1, .ref h2, .ref h3, .ref h4, .ref h5, .ref h6, .int a0, .int a1, .int a2, .int a3])), (h7, .inr (7, [.ref h8, .ref h9, .ref h10, .ref h11, .ref h12, .ref h13, .int a4, .int a5, .int a6, .int a7, .int a8, .int a9, .int a10, .int a11])), (h8, .inl (cI, 9, .inl g6)), (h9, .inl (cI, 9, .inl g7))] H ∧ va_D A [(h0, .inr (0, [.ref h1, .ref h2, .ref h3, .ref h4, .ref h5, .ref h6, .int a0, .int a1, .int a2, .int a3])), (h7, .inr (7, [.ref h8, .ref h9, .ref h10, .ref h11, .ref h12, .ref h13, .int a4, .int a5, .int a6, .int a7, .int a8, .int a9, .int a10, .int a11])), (h8, .inl (cI, 9, .inl g6)), (h9, .inl (cI, 9, .inl g7))] ∧ va_S A s.heap H locs ∧ lv_has ls 7 [(6, .int u), (5, .int 0), (4, .int x_4), (0, .ref h0), (1, .ref h7), (2, .int p1), (3, .int p2)] ∧ rg (0) (9) u) (fun u => ((9) - u.toInt).toNat) 42 [] ?_ (0) H locs ls ⟨hP, hD, hS, hl, (rg_mono (rg_k (x := 0) (c := 0) (by decide)) (by decide) (by decide))⟩
    rintro x_53 H locs ls ⟨hP, hD, hS, hl, hx_53⟩ ih_59
    replace hP : va_P (dC, dI) vwCl [(h0, .inr (0, [.ref h1, .ref h2, .ref h3, .ref h4, .ref h5, .ref h6, .int a0, .int a1, .int a2, .int a3])), (h7, .inr (7, [.ref h8, .ref h9, .ref h10, .ref h11, .ref h12, .ref h13, .int a4, .int a5, .int a6, .int a7, .int a8, .int a9, .int a10, .int a11])), (h8, .inl (cI, 9, .inl g6)), (h9, .inl (cI, 9, .inl g7))] H := hP
    replace hD : va_D A [(h0, .inr (0, [.ref h1, .ref h2, .ref h3, .ref h4, .ref h5, .ref h6, .int a0, .int a1, .int a2, .int a3])), (h7, .inr (7, [.ref h8, .ref h9, .ref h10, .ref h11, .ref h12, .ref h13, .int a4, .int a5, .int a6, .int a7, .int a8, .int a9, .int a10, .int a11])), (h8, .inl (cI, 9, .inl g6)), (h9, .inl (cI, 9, .inl g7))] := hD
    replace hl : lv_has ls 7 [(6, .int x_53), (5, .int 0), (4, .int x_4), (0, .ref h0), (1, .ref h7), (2, .int p1), (3, .int p2)] := hl
    replace hx_53 : rg (0) (9) x_53 := hx_53
    refine lv_iload hx hb dX0_areTwins_42 (lv_at hl 0 rfl) ?_
    refine lv_aload_n hx hb dX0_areTwins_44 rfl (lv_at hl 3 rfl) ?_
    refine va_get (D := (dC, dI)) (ci := 0) (v := .int a2) (C := RX0) (T := TX0) (N := 10) hx hb hts hinX0 hown hK hP 0 rfl rfl 8 (by decide) (hts (.fieldLink RX0 37 "MayRings$Families" "size" "I") (List.mem_of_getElem? (i := 2) rfl)) (fun _ h9 => h9) rfl dX0_areTwins_45 ?_
    refine lv_icmp_ge (tgt := 94) hx hb dX0_areTwins_48 (by decide) (fun c_60 => ?_) (fun c_60 => ?_)
    · skip
      refine lv_iload hx hb dX0_areTwins_94 (lv_at hl 1 rfl) ?_
      have hP9 := hP.sub (ws' := [(h0, .inr (0, [.ref h1, .ref h2, .ref h3, .ref h4, .ref h5, .ref h6, .int a0, .int a1, .int a2, .int a3])), (h7, .inr (7, [.ref h8, .ref h9, .ref h10, .ref h11, .ref h12, .ref h13, .int a4, .int a5, .int a6, .int a7, .int a8, .int a9, .int a10, .int a11])), (h8, .inl (cI, 9, .inl g6)), (h9, .inl (cI, 9, .inl g7))]) [0, 1, 2, 3] rfl
      have hD9 := hD.sub (ws' := [(h0, .inr (0, [.ref h1, .ref h2, .ref h3, .ref h4, .ref h5, .ref h6, .int a0, .int a1, .int a2, .int a3])), (h7, .inr (7, [.ref h8, .ref h9, .ref h10, .ref h11, .ref h12, .ref h13, .int a4, .int a5, .int a6, .int a7, .int a8, .int a9, .int a10, .int a11])), (h8, .inl (cI, 9, .inl g6)), (h9, .inl (cI, 9, .inl g7))]) [0, 1, 2, 3] (by decide) rfl
      exact W.zret (v := 0) hx hb hr (rfl) (fun t ht hW => ⟨⟨0, (), rfl, (rg_mono (rg_k (x := 0) (c := 0) (by decide)) (by decide) (by decide)), ⟨by rw [ht]; exact hP9, hD9⟩⟩, hS.F ht⟩) hS.2.2 dX0_areTwins_96
    · skip
      have h_61 : rg (0) (8) x_53 := by have ha := hx_53; have hb_ := ha2; simp only [rg, fa_lt, fa_le, fa_eq] at ha hb_ c_60; simp only [rg]; omega
      have h_62 : rg (1) (9) a2 := by have ha := h_61; have hb_ := ha2; have hc_ := c_60; simp only [rg, fa_lt, fa_le, fa_eq] at ha hb_ hc_; simp only [rg]; omega
      have h_63 : rg (1) (9) a2 := by have ha := hx_53; have hb_ := ha2; simp only [rg, fa_lt, fa_le, fa_eq] at ha hb_ c_60; simp only [rg]; omega
      refine lv_iload hx hb dX0_areTwins_51 (lv_at hl 1 rfl) ?_
      refine lv_if_eq (tgt := 85) hx hb dX0_areTwins_53 (by decide) (fun _ => ?_) (fun cz => absurd (by decide) cz)
      refine lv_iconst (v := 0) hx hb dX0_areTwins_85 (by decide) ?_
      refine lv_istore (lv' := [(5, .int 0), (6, .int x_53), (4, .int x_4), (0, .ref h0), (1, .ref h7), (2, .int p1), (3, .int p2)]) hx hb dX0_areTwins_86 hl (by decide) rfl (fun ls hl => ?_)
      obtain ⟨x_64, ex_64⟩ : ∃ y : Int32, y = x_53 + Int32.ofInt (1) := ⟨_, rfl⟩
      have hx_64 : rg (1) (9) x_64 := by rw [ex_64]; exact rg_mono (rg_add h_61 (rg_k (x := Int32.ofInt (1)) (c := 1) (by decide)) (by decide) (by decide)) (by decide) (by decide)
      have qx_64 : x_64.toInt = x_53.toInt + (1) := by rw [ex_64]; exact rg_addE h_61 (rg_k (x := Int32.ofInt (1)) (c := 1) (by decide)) (by decide) (by decide) (by decide)
      refine lv_iinc (v := x_64) (lv' := [(6, .int x_64), (5, .int 0), (4, .int x_4), (0, .ref h0), (1, .ref h7), (2, .int p1), (3, .int p2)]) hx hb dX0_areTwins_88 hl (k := 1) rfl (ex_64.symm) (by decide) rfl (fun ls hl => ?_)
      clear ex_64
      refine lv_goto (tgt := 42) hx hb dX0_areTwins_91 (by decide) ?_
      exact ih_59 (x_64) H locs ls ⟨hP.sub (ws' := [(h0, .inr (0, [.ref h1, .ref h2, .ref h3, .ref h4, .ref h5, .ref h6, .int a0, .int a1, .int a2, .int a3])), (h7, .inr (7, [.ref h8, .ref h9, .ref h10, .ref h11, .ref h12, .ref h13, .int a4, .int a5, .int a6, .int a7, .int a8, .int a9, .int a10, .int a11])), (h8, .inl (cI, 9, .inl g6)), (h9, .inl (cI, 9, .inl g7))]) [0, 1, 2, 3] rfl, hD.sub (ws' := [(h0, .inr (0, [.ref h1, .ref h2, .ref h3, .ref h4, .ref h5, .ref h6, .int a0, .int a1, .int a2, .int a3])), (h7, .inr (7, [.ref h8, .ref h9, .ref h10, .ref h11, .ref h12, .ref h13, .int a4, .int a5, .int a6, .int a7, .int a8, .int a9, .int a10, .int a11])), (h8, .inl (cI, 9, .inl g6)), (h9, .inl (cI, 9, .inl g7))]) [0, 1, 2, 3] (by decide) rfl, hS, lv_sub hl [0, 1, 2, 3, 4, 5, 6] rfl, (rg_mono hx_64 (by decide) (by decide))⟩ (by show ((9) - x_64.toInt).toNat < ((9) - x_53.toInt).toNat; have ha := h_61; simp only [rg] at ha; omega)
  · skip
    refine lv_iconst (v := 1) hx hb dX0_areTwins_32 (by decide) ?_
    refine lv_goto (tgt := 37) hx hb dX0_areTwins_33 (by decide) ?_
    refine lv_istore (lv' := [(5, .int 1), (4, .int x_4), (0, .ref h0), (1, .ref h7), (2, .int p1), (3, .int p2)]) hx hb dX0_areTwins_37 hl (by decide) rfl (fun ls hl => ?_)
    refine lv_iconst (v := 0) hx hb dX0_areTwins_39 (by decide) ?_
    refine lv_istore (lv' := [(6, .int 0), (5, .int 1), (4, .int x_4), (0, .ref h0), (1, .ref h7), (2, .int p1), (3, .int p2)]) hx hb dX0_areTwins_40 hl (by decide) rfl (fun ls hl => ?_)
    refine W_loopM (σ := Int32 × Int32) (fun u H locs ls => va_P (dC, dI) vwCl [(h0, .inr (0, [.ref h1, .ref h2, .ref h3, .ref h4, .ref h5, .ref h6, .int a0, .int a1, .int a2, .int a3])), (h7, .inr (7, [.ref h8, .ref h9, .ref h10, .ref h11, .ref h12, .ref h13, .int a4, .int a5, .int a6, .int a7, .int a8, .int a9, .int a10, .int a11])), (h8, .inl (cI, 9, .inl g6)), (h9, .inl (cI, 9, .inl g7))] H ∧ va_D A [(h0, .inr (0, [.ref h1, .ref h2, .ref h3, .ref h4, .ref h5, .ref h6, .int a0, .int a1, .int a2, .int a3])), (h7, .inr (7, [.ref h8, .ref h9, .ref h10, .ref h11, .ref h12, .ref h13, .int a4, .int a5, .int a6, .int a7, .int a8, .int a9, .int a10, .int a11])), (h8, .inl (cI, 9, .inl g6)), (h9, .inl (cI, 9, .inl g7))] ∧ va_S A s.heap H locs ∧ lv_has ls 7 [(6, .int u.1), (5, .int u.2), (4, .int x_4), (0, .ref h0), (1, .ref h7), (2, .int p1), (3, .int p2)] ∧ rg (0) (9) u.1 ∧ rg (0) (1) u.2) (fun u => ((9) - u.1.toInt).toNat) 42 [] ?_ (0, 1) H locs ls ⟨hP, hD, hS, hl, (rg_mono (rg_k (x := 0) (c := 0) (by decide)) (by decide) (by decide)), (rg_mono (rg_k (x := 1) (c := 1) (by decide)) (by decide) (by decide))⟩
    rintro ⟨x_210, x_211⟩ H locs ls ⟨hP, hD, hS, hl, hx_210, hx_211⟩ ih_228
    replace hP : va_P (dC, dI) vwCl [(h0, .inr (0, [.ref h1, .ref h2, .ref h3, .ref h4, .ref h5, .ref h6, .int a0, .int a1, .int a2, .int a3])), (h7, .inr (7, [.ref h8, .ref h9, .ref h10, .ref h11, .ref h12, .ref h13, .int a4, .int a5, .int a6, .int a7, .int a8, .int a9, .int a10, .int a11])), (h8, .inl (cI, 9, .inl g6)), (h9, .inl (cI, 9, .inl g7))] H := hP
    replace hD : va_D A [(h0, .inr (0, [.ref h1, .ref h2, .ref h3, .ref h4, .ref h5, .ref h6, .int a0, .int a1, .int a2, .int a3])), (h7, .inr (7, [.ref h8, .ref h9, .ref h10, .ref h11, .ref h12, .ref h13, .int a4, .int a5, .int a6, .int a7, .int a8, .int a9, .int a10, .int a11])), (h8, .inl (cI, 9, .inl g6)), (h9, .inl (cI, 9, .inl g7))] := hD
    replace hl : lv_has ls 7 [(6, .int x_210), (5, .int x_211), (4, .int x_4), (0, .ref h0), (1, .ref h7), (2, .int p1), (3, .int p2)] := hl
    replace hx_210 : rg (0) (9) x_210 := hx_210
    replace hx_211 : rg (0) (1) x_211 := hx_211
    refine lv_iload hx hb dX0_areTwins_42 (lv_at hl 0 rfl) ?_
    refine lv_aload_n hx hb dX0_areTwins_44 rfl (lv_at hl 3 rfl) ?_
    refine va_get (D := (dC, dI)) (ci := 0) (v := .int a2) (C := RX0) (T := TX0) (N := 10) hx hb hts hinX0 hown hK hP 0 rfl rfl 8 (by decide) (hts (.fieldLink RX0 37 "MayRings$Families" "size" "I") (List.mem_of_getElem? (i := 2) rfl)) (fun _ h9 => h9) rfl dX0_areTwins_45 ?_
    refine lv_icmp_ge (tgt := 94) hx hb dX0_areTwins_48 (by decide) (fun c_229 => ?_) (fun c_229 => ?_)
    · skip
      refine lv_iload hx hb dX0_areTwins_94 (lv_at hl 1 rfl) ?_
      have hP9 := hP.sub (ws' := [(h0, .inr (0, [.ref h1, .ref h2, .ref h3, .ref h4, .ref h5, .ref h6, .int a0, .int a1, .int a2, .int a3])), (h7, .inr (7, [.ref h8, .ref h9, .ref h10, .ref h11, .ref h12, .ref h13, .int a4, .int a5, .int a6, .int a7, .int a8, .int a9, .int a10, .int a11])), (h8, .inl (cI, 9, .inl g6)), (h9, .inl (cI, 9, .inl g7))]) [0, 1, 2, 3] rfl
      have hD9 := hD.sub (ws' := [(h0, .inr (0, [.ref h1, .ref h2, .ref h3, .ref h4, .ref h5, .ref h6, .int a0, .int a1, .int a2, .int a3])), (h7, .inr (7, [.ref h8, .ref h9, .ref h10, .ref h11, .ref h12, .ref h13, .int a4, .int a5, .int a6, .int a7, .int a8, .int a9, .int a10, .int a11])), (h8, .inl (cI, 9, .inl g6)), (h9, .inl (cI, 9, .inl g7))]) [0, 1, 2, 3] (by decide) rfl
      exact W.zret (v := x_211) hx hb hr (rg_zn (rg_mono hx_211 (by decide) (by decide))) (fun t ht hW => ⟨⟨x_211, (), rfl, (rg_mono hx_211 (by decide) (by decide)), ⟨by rw [ht]; exact hP9, hD9⟩⟩, hS.F ht⟩) hS.2.2 dX0_areTwins_96
    · skip
      have h_230 : rg (0) (8) x_210 := by have ha := hx_210; have hb_ := ha2; simp only [rg, fa_lt, fa_le, fa_eq] at ha hb_ c_229; simp only [rg]; omega
      have h_231 : rg (1) (9) a2 := by have ha := h_230; have hb_ := ha2; have hc_ := c_229; simp only [rg, fa_lt, fa_le, fa_eq] at ha hb_ hc_; simp only [rg]; omega
      have h_232 : rg (1) (9) a2 := by have ha := hx_210; have hb_ := ha2; simp only [rg, fa_lt, fa_le, fa_eq] at ha hb_ c_229; simp only [rg]; omega
      refine lv_iload hx hb dX0_areTwins_51 (lv_at hl 1 rfl) ?_
      refine lv_if_eq (tgt := 85) hx hb dX0_areTwins_53 (by decide) (fun c_233 => ?_) (fun c_233 => ?_)
      · skip
        have h_234 : rg (0) (0) x_211 := by have ha := hx_211; have hb_ := (rg_k (x := 0) (c := 0) (by decide)); simp only [rg, fa_lt, fa_le, fa_eq, (by decide : (0 : Int32).toInt = 0)] at ha hb_ c_233; simp only [rg]; omega
        refine lv_iconst (v := 0) hx hb dX0_areTwins_85 (by decide) ?_
        refine lv_istore (lv' := [(5, .int 0), (6, .int x_210), (4, .int x_4), (0, .ref h0), (1, .ref h7), (2, .int p1), (3, .int p2)]) hx hb dX0_areTwins_86 hl (by decide) rfl (fun ls hl => ?_)
        obtain ⟨x_235, ex_235⟩ : ∃ y : Int32, y = x_210 + Int32.ofInt (1) := ⟨_, rfl⟩
        have hx_235 : rg (1) (9) x_235 := by rw [ex_235]; exact rg_mono (rg_add h_230 (rg_k (x := Int32.ofInt (1)) (c := 1) (by decide)) (by decide) (by decide)) (by decide) (by decide)
        have qx_235 : x_235.toInt = x_210.toInt + (1) := by rw [ex_235]; exact rg_addE h_230 (rg_k (x := Int32.ofInt (1)) (c := 1) (by decide)) (by decide) (by decide) (by decide)
        refine lv_iinc (v := x_235) (lv' := [(6, .int x_235), (5, .int 0), (4, .int x_4), (0, .ref h0), (1, .ref h7), (2, .int p1), (3, .int p2)]) hx hb dX0_areTwins_88 hl (k := 1) rfl (ex_235.symm) (by decide) rfl (fun ls hl => ?_)
        clear ex_235
        refine lv_goto (tgt := 42) hx hb dX0_areTwins_91 (by decide) ?_
        exact ih_228 (x_235, 0) H locs ls ⟨hP.sub (ws' := [(h0, .inr (0, [.ref h1, .ref h2, .ref h3, .ref h4, .ref h5, .ref h6, .int a0, .int a1, .int a2, .int a3])), (h7, .inr (7, [.ref h8, .ref h9, .ref h10, .ref h11, .ref h12, .ref h13, .int a4, .int a5, .int a6, .int a7, .int a8, .int a9, .int a10, .int a11])), (h8, .inl (cI, 9, .inl g6)), (h9, .inl (cI, 9, .inl g7))]) [0, 1, 2, 3] rfl, hD.sub (ws' := [(h0, .inr (0, [.ref h1, .ref h2, .ref h3, .ref h4, .ref h5, .ref h6, .int a0, .int a1, .int a2, .int a3])), (h7, .inr (7, [.ref h8, .ref h9, .ref h10, .ref h11, .ref h12, .ref h13, .int a4, .int a5, .int a6, .int a7, .int a8, .int a9, .int a10, .int a11])), (h8, .inl (cI, 9, .inl g6)), (h9, .inl (cI, 9, .inl g7))]) [0, 1, 2, 3] (by decide) rfl, hS, lv_sub hl [0, 1, 2, 3, 4, 5, 6] rfl, (rg_mono hx_235 (by decide) (by decide)), (rg_mono (rg_k (x := 0) (c := 0) (by decide)) (by decide) (by decide))⟩ (by show ((9) - x_235.toInt).toNat < ((9) - x_210.toInt).toNat; have ha := h_230; simp only [rg] at ha; omega)
      · skip
        have h_236 : rg (1) (1) x_211 := by have ha := hx_211; have hb_ := (rg_k (x := 0) (c := 0) (by decide)); simp only [rg, fa_lt, fa_le, fa_eq, (by decide : (0 : Int32).toInt = 0)] at ha hb_ c_233; simp only [rg]; omega
        refine lv_aload_n hx hb dX0_areTwins_56 rfl (lv_at hl 4 rfl) ?_
        refine va_get (D := (dC, dI)) (ci := 7) (v := .ref h8) (C := RX7) (T := TX7) (N := 14) hx hb hts hinX7 hown hK hP 1 rfl rfl 0 (by decide) (hts (.fieldLink RX0 67 "MayRings$Ways" "ground" "[I") (List.mem_of_getElem? (i := 3) rfl)) (fun _ h9 => h9) rfl dX0_areTwins_57 ?_
        refine lv_iload hx hb dX0_areTwins_60 (lv_at hl 0 rfl) ?_
        refine va_iald hx hb hK hP 2 1 rfl rfl (rg_in (n := 9) (rg_mono h_230 (by decide) (by decide))) dX0_areTwins_62 ?_
        refine lv_topi (fun x_237 ex_237 => ?_)
        have hx_237 : rg (0) (511) x_237 := by rw [ex_237]; exact rg_mono (hg6 _) (by decide) (by decide)
        refine lv_iload_n hx hb dX0_areTwins_63 rfl (lv_at hl 5 rfl) ?_
        refine lv_ishr hx hb dX0_areTwins_64 ?_
        refine lv_topi (fun x_238 ex_238 => ?_)
        have hx_238 : rg (0) (511) x_238 := by rw [ex_238]; exact rg_mono (rg_shr (b := 511) (rg_mono hx_237 (by decide) (by decide))) (by decide) (by decide)
        have kx_238_0 : rg 1 2147483647 x_238 → rg 1 (511) x_237 := fun hq => rg_shrP hx_237 (ex_238 ▸ hq)
        refine lv_iconst (v := 1) hx hb dX0_areTwins_65 (by decide) ?_
        refine lv_iand hx hb dX0_areTwins_66 ?_
        refine lv_topi (fun x_239 ex_239 => ?_)
        have hx_239 : rg (0) (1) x_239 := by rw [ex_239]; exact rg_mono (rg_andr (b := 1) (rg_mono (rg_k (x := 1) (c := 1) (by decide)) (by decide) (by decide))) (by decide) (by decide)
        have kx_239_0 : rg 1 2147483647 x_239 → rg 1 (511) x_238 := fun hq => rg_andP hx_238 (ex_239 ▸ hq)
        refine lv_aload_n hx hb dX0_areTwins_67 rfl (lv_at hl 4 rfl) ?_
        refine va_get (D := (dC, dI)) (ci := 7) (v := .ref h8) (C := RX7) (T := TX7) (N := 14) hx hb hts hinX7 hown hK hP 1 rfl rfl 0 (by decide) (hts (.fieldLink RX0 67 "MayRings$Ways" "ground" "[I") (List.mem_of_getElem? (i := 3) rfl)) (fun _ h9 => h9) rfl dX0_areTwins_68 ?_
        refine lv_iload hx hb dX0_areTwins_71 (lv_at hl 0 rfl) ?_
        refine va_iald hx hb hK hP 2 1 rfl rfl (rg_in (n := 9) (rg_mono h_230 (by decide) (by decide))) dX0_areTwins_73 ?_
        refine tp_v (.int x_237) (congrArg Value.int (ex_237.symm)) ?_
        refine lv_iload_n hx hb dX0_areTwins_74 rfl (lv_at hl 6 rfl) ?_
        refine lv_ishr hx hb dX0_areTwins_75 ?_
        refine lv_topi (fun x_240 ex_240 => ?_)
        have hx_240 : rg (0) (511) x_240 := by rw [ex_240]; exact rg_mono (rg_shr (b := 511) (rg_mono hx_237 (by decide) (by decide))) (by decide) (by decide)
        have kx_240_0 : rg 1 2147483647 x_240 → rg 1 (511) x_237 := fun hq => rg_shrP hx_237 (ex_240 ▸ hq)
        refine lv_iconst (v := 1) hx hb dX0_areTwins_76 (by decide) ?_
        refine lv_iand hx hb dX0_areTwins_77 ?_
        refine lv_topi (fun x_241 ex_241 => ?_)
        have hx_241 : rg (0) (1) x_241 := by rw [ex_241]; exact rg_mono (rg_andr (b := 1) (rg_mono (rg_k (x := 1) (c := 1) (by decide)) (by decide) (by decide))) (by decide) (by decide)
        have kx_241_0 : rg 1 2147483647 x_241 → rg 1 (511) x_240 := fun hq => rg_andP hx_240 (ex_241 ▸ hq)
        refine lv_icmp_ne (tgt := 85) hx hb dX0_areTwins_78 (by decide) (fun c_242 => ?_) (fun c_242 => ?_)
        · skip
          refine lv_iconst (v := 0) hx hb dX0_areTwins_85 (by decide) ?_
          refine lv_istore (lv' := [(5, .int 0), (6, .int x_210), (4, .int x_4), (0, .ref h0), (1, .ref h7), (2, .int p1), (3, .int p2)]) hx hb dX0_areTwins_86 hl (by decide) rfl (fun ls hl => ?_)
          obtain ⟨x_243, ex_243⟩ : ∃ y : Int32, y = x_210 + Int32.ofInt (1) := ⟨_, rfl⟩
          have hx_243 : rg (1) (9) x_243 := by rw [ex_243]; exact rg_mono (rg_add h_230 (rg_k (x := Int32.ofInt (1)) (c := 1) (by decide)) (by decide) (by decide)) (by decide) (by decide)
          have qx_243 : x_243.toInt = x_210.toInt + (1) := by rw [ex_243]; exact rg_addE h_230 (rg_k (x := Int32.ofInt (1)) (c := 1) (by decide)) (by decide) (by decide) (by decide)
          refine lv_iinc (v := x_243) (lv' := [(6, .int x_243), (5, .int 0), (4, .int x_4), (0, .ref h0), (1, .ref h7), (2, .int p1), (3, .int p2)]) hx hb dX0_areTwins_88 hl (k := 1) rfl (ex_243.symm) (by decide) rfl (fun ls hl => ?_)
          clear ex_243
          refine lv_goto (tgt := 42) hx hb dX0_areTwins_91 (by decide) ?_
          exact ih_228 (x_243, 0) H locs ls ⟨hP.sub (ws' := [(h0, .inr (0, [.ref h1, .ref h2, .ref h3, .ref h4, .ref h5, .ref h6, .int a0, .int a1, .int a2, .int a3])), (h7, .inr (7, [.ref h8, .ref h9, .ref h10, .ref h11, .ref h12, .ref h13, .int a4, .int a5, .int a6, .int a7, .int a8, .int a9, .int a10, .int a11])), (h8, .inl (cI, 9, .inl g6)), (h9, .inl (cI, 9, .inl g7))]) [0, 1, 2, 3] rfl, hD.sub (ws' := [(h0, .inr (0, [.ref h1, .ref h2, .ref h3, .ref h4, .ref h5, .ref h6, .int a0, .int a1, .int a2, .int a3])), (h7, .inr (7, [.ref h8, .ref h9, .ref h10, .ref h11, .ref h12, .ref h13, .int a4, .int a5, .int a6, .int a7, .int a8, .int a9, .int a10, .int a11])), (h8, .inl (cI, 9, .inl g6)), (h9, .inl (cI, 9, .inl g7))]) [0, 1, 2, 3] (by decide) rfl, hS, lv_sub hl [0, 1, 2, 3, 4, 5, 6] rfl, (rg_mono hx_243 (by decide) (by decide)), (rg_mono (rg_k (x := 0) (c := 0) (by decide)) (by decide) (by decide))⟩ (by show ((9) - x_243.toInt).toNat < ((9) - x_210.toInt).toNat; have ha := h_230; simp only [rg] at ha; omega)
        · skip
          refine lv_iconst (v := 1) hx hb dX0_areTwins_81 (by decide) ?_
          refine lv_goto (tgt := 86) hx hb dX0_areTwins_82 (by decide) ?_
          refine lv_istore (lv' := [(5, .int 1), (6, .int x_210), (4, .int x_4), (0, .ref h0), (1, .ref h7), (2, .int p1), (3, .int p2)]) hx hb dX0_areTwins_86 hl (by decide) rfl (fun ls hl => ?_)
          obtain ⟨x_244, ex_244⟩ : ∃ y : Int32, y = x_210 + Int32.ofInt (1) := ⟨_, rfl⟩
          have hx_244 : rg (1) (9) x_244 := by rw [ex_244]; exact rg_mono (rg_add h_230 (rg_k (x := Int32.ofInt (1)) (c := 1) (by decide)) (by decide) (by decide)) (by decide) (by decide)
          have qx_244 : x_244.toInt = x_210.toInt + (1) := by rw [ex_244]; exact rg_addE h_230 (rg_k (x := Int32.ofInt (1)) (c := 1) (by decide)) (by decide) (by decide) (by decide)
          refine lv_iinc (v := x_244) (lv' := [(6, .int x_244), (5, .int 1), (4, .int x_4), (0, .ref h0), (1, .ref h7), (2, .int p1), (3, .int p2)]) hx hb dX0_areTwins_88 hl (k := 1) rfl (ex_244.symm) (by decide) rfl (fun ls hl => ?_)
          clear ex_244
          refine lv_goto (tgt := 42) hx hb dX0_areTwins_91 (by decide) ?_
          exact ih_228 (x_244, 1) H locs ls ⟨hP.sub (ws' := [(h0, .inr (0, [.ref h1, .ref h2, .ref h3, .ref h4, .ref h5, .ref h6, .int a0, .int a1, .int a2, .int a3])), (h7, .inr (7, [.ref h8, .ref h9, .ref h10, .ref h11, .ref h12, .ref h13, .int a4, .int a5, .int a6, .int a7, .int a8, .int a9, .int a10, .int a11])), (h8, .inl (cI, 9, .inl g6)), (h9, .inl (cI, 9, .inl g7))]) [0, 1, 2, 3] rfl, hD.sub (ws' := [(h0, .inr (0, [.ref h1, .ref h2, .ref h3, .ref h4, .ref h5, .ref h6, .int a0, .int a1, .int a2, .int a3])), (h7, .inr (7, [.ref h8, .ref h9, .ref h10, .ref h11, .ref h12, .ref h13, .int a4, .int a5, .int a6, .int a7, .int a8, .int a9, .int a10, .int a11])), (h8, .inl (cI, 9, .inl g6)), (h9, .inl (cI, 9, .inl g7))]) [0, 1, 2, 3] (by decide) rfl, hS, lv_sub hl [0, 1, 2, 3, 4, 5, 6] rfl, (rg_mono hx_244 (by decide) (by decide)), (rg_mono (rg_k (x := 1) (c := 1) (by decide)) (by decide) (by decide))⟩ (by show ((9) - x_244.toInt).toNat < ((9) - x_210.toInt).toNat; have ha := h_230; simp only [rg] at ha; omega)
def v_s_X0_mayLead : List Cond := Cond.code yX0_mayLead cX0_mayLead 5 (some .boolean) :: ([Cond.fieldLink RX0 37 "MayRings$Families" "size" "I", Cond.fieldLink RX0 27 "MayRings$Families" "twins" "[I"] ++ (wsX00 ++ ([])))
theorem k_s_X0_mayLead : GoodIn lw_tbl v_s_X0_mayLead := gd_c (List.mem_of_getElem? (i := 1070) (by decide +kernel)) rfl (goodIn_app (gd_c (List.mem_of_getElem? (i := 508) (by decide +kernel)) rfl (gd_c (List.mem_of_getElem? (i := 505) (by decide +kernel)) rfl (gd_nil))) (goodIn_app kfX0 (gd_nil)))
set_option maxHeartbeats 2000000 in
set_option maxRecDepth 100000 in
theorem c_s_X0_mayLead (l : Launch) (dC : Nat → ClassId) (dI : Nat → Nat → Nat) (cB cI cJ cZ cP : ClassId) (h0 : Nat) (h1 : Nat) (h2 : Nat) (h3 : Nat) (h4 : Nat) (h5 : Nat) (h6 : Nat) (g5 : Nat → Int32) (a0 : Int32) (a1 : Int32) (a2 : Int32) (ha2 : rg (0) (9) a2) (a3 : Int32) (p0 : Int32) (sz : Nat) : Met l yX0_mayLead v_s_X0_mayLead ({ frames := 0, cells := 0, slots := 0, locals := 0 }) (va_Pc [.ref h0, .int p0] (fun U => U.heap.size = sz ∧ va_P (dC, dI) vwCl [(h0, .inr (0, [.ref h1, .ref h2, .ref h3, .ref h4, .ref h5, .ref h6, .int a0, .int a1, .int a2, .int a3])), (h6, .inl (cI, 9, .inl g5))] U.heap ∧ va_K (dC, dI) vwCl (ty5 cB cI cJ cZ cP) U ∧ va_D (fun _ => True) [(h0, .inr (0, [.ref h1, .ref h2, .ref h3, .ref h4, .ref h5, .ref h6, .int a0, .int a1, .int a2, .int a3])), (h6, .inl (cI, 9, .inl g5))])) (va_Qi (fun (r : Int32) (u9 : Unit) => rg (0) (1) r) (fun u9 t => va_P (dC, dI) vwCl [(h0, .inr (0, [.ref h1, .ref h2, .ref h3, .ref h4, .ref h5, .ref h6, .int a0, .int a1, .int a2, .int a3])), (h6, .inl (cI, 9, .inl g5))] t.heap ∧ va_D (va_A [(h0, .inr (0, [.ref h1, .ref h2, .ref h3, .ref h4, .ref h5, .ref h6, .int a0, .int a1, .int a2, .int a3])), (h6, .inl (cI, 9, .inl g5))] sz) [(h0, .inr (0, [.ref h1, .ref h2, .ref h3, .ref h4, .ref h5, .ref h6, .int a0, .int a1, .int a2, .int a3])), (h6, .inl (cI, 9, .inl g5))]) (va_A [(h0, .inr (0, [.ref h1, .ref h2, .ref h3, .ref h4, .ref h5, .ref h6, .int a0, .int a1, .int a2, .int a3])), (h6, .inl (cI, 9, .inl g5))] sz)) 0 0 (va_A [(h0, .inr (0, [.ref h1, .ref h2, .ref h3, .ref h4, .ref h5, .ref h6, .int a0, .int a1, .int a2, .int a3])), (h6, .inl (cI, 9, .inl g5))] sz) := by
  refine Met.ofW (cc := cX0_mayLead) (maxL := 5) (ret := (some .boolean)) (by decide) rfl ?_
  intro p e s m args below meth c s₁ B hml hv
  obtain ⟨rfl, hsz, hP, hK, hD0⟩ := hv
  have hx := B.exec
  have hb := B.bytes
  have hr := B.returns
  have hts := atoms_spec (ws := v_s_X0_mayLead) B.pre
  have hown : s.vm.findClass RX0 = some m.cls := findClass_of_methodNamed B.named
  have hlocks := B.notSynchronized
  have hinX0 : ∀ w ∈ wsX00, w ∈ v_s_X0_mayLead := fun _ h => List.mem_cons_of_mem _ (List.mem_append_right _ (List.mem_append_left _ h))
  subst hsz
  have hD := hD0.self (sz := s.heap.size)
  generalize hAe : va_A [(h0, .inr (0, [.ref h1, .ref h2, .ref h3, .ref h4, .ref h5, .ref h6, .int a0, .int a1, .int a2, .int a3])), (h6, .inl (cI, 9, .inl g5))] s.heap.size = A at hD ⊢
  have hA : ∀ q : Nat, s.heap.size ≤ q → A q := fun q h => by rw [← hAe]; exact Or.inr h
  have hP : va_P (dC, dI) vwCl [(h0, .inr (0, [.ref h1, .ref h2, .ref h3, .ref h4, .ref h5, .ref h6, .int a0, .int a1, .int a2, .int a3])), (h6, .inl (cI, 9, .inl g5))] s.heap := hP
  have hl := lv_entry ([.ref h0, .int p0]) (n := 5) (Nat.le_of_ble_eq_true rfl)
  rw [lg_entry_eq]
  generalize (lg_sl ([.ref h0, .int p0]) ++ List.replicate (5 - (lg_sl ([.ref h0, .int p0])).length) Slot.unset).toArray = ls at hl ⊢
  have hl : lv_has ls 5 [(0, .ref h0), (1, .int p0)] := hl
  refine W_gen (A := A) hP (fun H locs hP hS => ?_)
  refine lv_iconst (v := 0) hx hb dX0_mayLead_0 (by decide) ?_
  refine lv_istore_n (lv' := [(2, .int 0), (0, .ref h0), (1, .int p0)]) hx hb dX0_mayLead_1 rfl hl (by decide) rfl (fun ls hl => ?_)
  refine lv_iconst (v := 0) hx hb dX0_mayLead_2 (by decide) ?_
  refine lv_istore_n (lv' := [(3, .int 0), (2, .int 0), (0, .ref h0), (1, .int p0)]) hx hb dX0_mayLead_3 rfl hl (by decide) rfl (fun ls hl => ?_)
  refine W_loopM (σ := Int32 × Int32) (fun u H locs ls => va_P (dC, dI) vwCl [(h0, .inr (0, [.ref h1, .ref h2, .ref h3, .ref h4, .ref h5, .ref h6, .int a0, .int a1, .int a2, .int a3])), (h6, .inl (cI, 9, .inl g5))] H ∧ va_D A [(h0, .inr (0, [.ref h1, .ref h2, .ref h3, .ref h4, .ref h5, .ref h6, .int a0, .int a1, .int a2, .int a3])), (h6, .inl (cI, 9, .inl g5))] ∧ va_S A s.heap H locs ∧ lv_has ls 5 [(3, .int u.1), (2, .int u.2), (0, .ref h0), (1, .int p0)] ∧ rg (0) (9) u.1 ∧ rg (0) (511) u.2) (fun u => ((9) - u.1.toInt).toNat) 4 [] ?_ (0, 0) H locs ls ⟨hP, hD, hS, hl, (rg_mono (rg_k (x := 0) (c := 0) (by decide)) (by decide) (by decide)), (rg_mono (rg_k (x := 0) (c := 0) (by decide)) (by decide) (by decide))⟩
  rintro ⟨x_167, x_168⟩ H locs ls ⟨hP, hD, hS, hl, hx_167, hx_168⟩ ih_187
  replace hP : va_P (dC, dI) vwCl [(h0, .inr (0, [.ref h1, .ref h2, .ref h3, .ref h4, .ref h5, .ref h6, .int a0, .int a1, .int a2, .int a3])), (h6, .inl (cI, 9, .inl g5))] H := hP
  replace hD : va_D A [(h0, .inr (0, [.ref h1, .ref h2, .ref h3, .ref h4, .ref h5, .ref h6, .int a0, .int a1, .int a2, .int a3])), (h6, .inl (cI, 9, .inl g5))] := hD
  replace hl : lv_has ls 5 [(3, .int x_167), (2, .int x_168), (0, .ref h0), (1, .int p0)] := hl
  replace hx_167 : rg (0) (9) x_167 := hx_167
  replace hx_168 : rg (0) (511) x_168 := hx_168
  refine lv_iload_n hx hb dX0_mayLead_4 rfl (lv_at hl 0 rfl) ?_
  refine lv_aload_n hx hb dX0_mayLead_5 rfl (lv_at hl 2 rfl) ?_
  refine va_get (D := (dC, dI)) (ci := 0) (v := .int a2) (C := RX0) (T := TX0) (N := 10) hx hb hts hinX0 hown hK hP 0 rfl rfl 8 (by decide) (hts (.fieldLink RX0 37 "MayRings$Families" "size" "I") (List.mem_of_getElem? (i := 1) rfl)) (fun _ h9 => h9) rfl dX0_mayLead_6 ?_
  refine lv_icmp_ge (tgt := 58) hx hb dX0_mayLead_9 (by decide) (fun c_188 => ?_) (fun c_188 => ?_)
  · skip
    refine lv_iconst (v := 1) hx hb dX0_mayLead_58 (by decide) ?_
    have hP9 := hP.sub (ws' := [(h0, .inr (0, [.ref h1, .ref h2, .ref h3, .ref h4, .ref h5, .ref h6, .int a0, .int a1, .int a2, .int a3])), (h6, .inl (cI, 9, .inl g5))]) [0, 1] rfl
    have hD9 := hD.sub (ws' := [(h0, .inr (0, [.ref h1, .ref h2, .ref h3, .ref h4, .ref h5, .ref h6, .int a0, .int a1, .int a2, .int a3])), (h6, .inl (cI, 9, .inl g5))]) [0, 1] (by decide) rfl
    exact W.zret (v := 1) hx hb hr (rfl) (fun t ht hW => ⟨⟨1, (), rfl, (rg_mono (rg_k (x := 1) (c := 1) (by decide)) (by decide) (by decide)), ⟨by rw [ht]; exact hP9, hD9⟩⟩, hS.F ht⟩) hS.2.2 dX0_mayLead_59
  · skip
    have h_189 : rg (0) (8) x_167 := by have ha := hx_167; have hb_ := ha2; simp only [rg, fa_lt, fa_le, fa_eq] at ha hb_ c_188; simp only [rg]; omega
    have h_190 : rg (1) (9) a2 := by have ha := h_189; have hb_ := ha2; have hc_ := c_188; simp only [rg, fa_lt, fa_le, fa_eq] at ha hb_ hc_; simp only [rg]; omega
    have h_191 : rg (1) (9) a2 := by have ha := hx_167; have hb_ := ha2; simp only [rg, fa_lt, fa_le, fa_eq] at ha hb_ c_188; simp only [rg]; omega
    refine lv_iload_n hx hb dX0_mayLead_12 rfl (lv_at hl 3 rfl) ?_
    refine lv_iconst (v := 4) hx hb dX0_mayLead_13 (by decide) ?_
    refine lv_iload_n hx hb dX0_mayLead_14 rfl (lv_at hl 0 rfl) ?_
    refine lv_imul hx hb dX0_mayLead_15 ?_
    refine lv_topi (fun x_192 ex_192 => ?_)
    have hx_192 : rg (0) (32) x_192 := by rw [ex_192]; exact rg_mono (rg_mul (rg_k (x := 4) (c := 4) (by decide)) h_189 (by decide) (by decide) (by decide)) (by decide) (by decide)
    refine lv_iushr hx hb dX0_mayLead_16 rfl ?_
    refine lv_topi (fun x_193 ex_193 => ?_)
    refine lv_bipush (v := 15) hx hb dX0_mayLead_17 (by decide) ?_
    refine lv_iand hx hb dX0_mayLead_19 ?_
    refine lv_topi (fun x_194 ex_194 => ?_)
    have hx_194 : rg (0) (15) x_194 := by rw [ex_194]; exact rg_mono (rg_andr (b := 15) (rg_mono (rg_k (x := 15) (c := 15) (by decide)) (by decide) (by decide))) (by decide) (by decide)
    refine lv_istore (lv' := [(4, .int x_194), (3, .int x_167), (2, .int x_168), (0, .ref h0), (1, .int p0)]) hx hb dX0_mayLead_20 hl (by decide) rfl (fun ls hl => ?_)
    refine lv_iload hx hb dX0_mayLead_22 (lv_at hl 0 rfl) ?_
    refine lv_bipush (v := 9) hx hb dX0_mayLead_24 (by decide) ?_
    refine lv_icmp_ge (tgt := 43) hx hb dX0_mayLead_26 (by decide) (fun c_195 => ?_) (fun c_195 => ?_)
    · skip
      have h_196 : rg (9) (15) x_194 := by have ha := hx_194; have hb_ := (rg_k (x := 9) (c := 9) (by decide)); simp only [rg, fa_lt, fa_le, fa_eq, (by decide : (9 : Int32).toInt = 9)] at ha hb_ c_195; simp only [rg]; omega
      refine lv_iconst (v := 0) hx hb dX0_mayLead_43 (by decide) ?_
      have hP9 := hP.sub (ws' := [(h0, .inr (0, [.ref h1, .ref h2, .ref h3, .ref h4, .ref h5, .ref h6, .int a0, .int a1, .int a2, .int a3])), (h6, .inl (cI, 9, .inl g5))]) [0, 1] rfl
      have hD9 := hD.sub (ws' := [(h0, .inr (0, [.ref h1, .ref h2, .ref h3, .ref h4, .ref h5, .ref h6, .int a0, .int a1, .int a2, .int a3])), (h6, .inl (cI, 9, .inl g5))]) [0, 1] (by decide) rfl
      exact W.zret (v := 0) hx hb hr (rfl) (fun t ht hW => ⟨⟨0, (), rfl, (rg_mono (rg_k (x := 0) (c := 0) (by decide)) (by decide) (by decide)), ⟨by rw [ht]; exact hP9, hD9⟩⟩, hS.F ht⟩) hS.2.2 dX0_mayLead_44
    · skip
      have h_197 : rg (0) (8) x_194 := by have ha := hx_194; have hb_ := (rg_k (x := 9) (c := 9) (by decide)); simp only [rg, fa_lt, fa_le, fa_eq, (by decide : (9 : Int32).toInt = 9)] at ha hb_ c_195; simp only [rg]; omega
      refine lv_aload_n hx hb dX0_mayLead_29 rfl (lv_at hl 3 rfl) ?_
      refine va_get (D := (dC, dI)) (ci := 0) (v := .ref h6) (C := RX0) (T := TX0) (N := 10) hx hb hts hinX0 hown hK hP 0 rfl rfl 5 (by decide) (hts (.fieldLink RX0 27 "MayRings$Families" "twins" "[I") (List.mem_of_getElem? (i := 2) rfl)) (fun _ h9 => h9) rfl dX0_mayLead_30 ?_
      refine lv_iload hx hb dX0_mayLead_33 (lv_at hl 0 rfl) ?_
      refine va_iald hx hb hK hP 1 1 rfl rfl (rg_in (n := 9) (rg_mono h_197 (by decide) (by decide))) dX0_mayLead_35 ?_
      refine lv_topi (fun x_198 ex_198 => ?_)
      refine lv_iload_n hx hb dX0_mayLead_36 rfl (lv_at hl 2 rfl) ?_
      refine lv_iconst (v := (-1)) hx hb dX0_mayLead_37 (by decide) ?_
      refine lv_ixor hx hb dX0_mayLead_38 ?_
      refine lv_topi (fun x_199 ex_199 => ?_)
      refine lv_iand hx hb dX0_mayLead_39 ?_
      refine lv_topi (fun x_200 ex_200 => ?_)
      refine lv_if_eq (tgt := 45) hx hb dX0_mayLead_40 (by decide) (fun c_201 => ?_) (fun c_201 => ?_)
      · skip
        have h_202 : rg (0) (0) x_200 := by have ha := (rg_any x_200); have hb_ := (rg_k (x := 0) (c := 0) (by decide)); simp only [rg, fa_lt, fa_le, fa_eq, (by decide : (0 : Int32).toInt = 0)] at ha hb_ c_201; simp only [rg]; omega
        refine lv_iload_n hx hb dX0_mayLead_45 rfl (lv_at hl 2 rfl) ?_
        refine lv_iconst (v := 1) hx hb dX0_mayLead_46 (by decide) ?_
        refine lv_iload hx hb dX0_mayLead_47 (lv_at hl 0 rfl) ?_
        refine lv_ishl hx hb dX0_mayLead_49 ?_
        refine lv_topi (fun x_203 ex_203 => ?_)
        have hx_203 : rg (1) (256) x_203 := by rw [ex_203]; exact rg_mono (rg_shl1 8 (rg_mono h_197 (by decide) (by decide)) (by decide)) (by decide) (by decide)
        refine lv_ior hx hb dX0_mayLead_50 ?_
        refine lv_topi (fun x_204 ex_204 => ?_)
        have hx_204 : rg (0) (511) x_204 := by rw [ex_204]; exact rg_mono (rg_or 9 (rg_mono hx_168 (by decide) (by decide)) (rg_mono hx_203 (by decide) (by decide)) (by decide)) (by decide) (by decide)
        refine lv_istore_n (lv' := [(2, .int x_204), (4, .int x_194), (3, .int x_167), (0, .ref h0), (1, .int p0)]) hx hb dX0_mayLead_51 rfl hl (by decide) rfl (fun ls hl => ?_)
        obtain ⟨x_205, ex_205⟩ : ∃ y : Int32, y = x_167 + Int32.ofInt (1) := ⟨_, rfl⟩
        have hx_205 : rg (1) (9) x_205 := by rw [ex_205]; exact rg_mono (rg_add h_189 (rg_k (x := Int32.ofInt (1)) (c := 1) (by decide)) (by decide) (by decide)) (by decide) (by decide)
        have qx_205 : x_205.toInt = x_167.toInt + (1) := by rw [ex_205]; exact rg_addE h_189 (rg_k (x := Int32.ofInt (1)) (c := 1) (by decide)) (by decide) (by decide) (by decide)
        refine lv_iinc (v := x_205) (lv' := [(3, .int x_205), (2, .int x_204), (4, .int x_194), (0, .ref h0), (1, .int p0)]) hx hb dX0_mayLead_52 hl (k := 2) rfl (ex_205.symm) (by decide) rfl (fun ls hl => ?_)
        clear ex_205
        refine lv_goto (tgt := 4) hx hb dX0_mayLead_55 (by decide) ?_
        exact ih_187 (x_205, x_204) H locs ls ⟨hP.sub (ws' := [(h0, .inr (0, [.ref h1, .ref h2, .ref h3, .ref h4, .ref h5, .ref h6, .int a0, .int a1, .int a2, .int a3])), (h6, .inl (cI, 9, .inl g5))]) [0, 1] rfl, hD.sub (ws' := [(h0, .inr (0, [.ref h1, .ref h2, .ref h3, .ref h4, .ref h5, .ref h6, .int a0, .int a1, .int a2, .int a3])), (h6, .inl (cI, 9, .inl g5))]) [0, 1] (by decide) rfl, hS, lv_sub hl [0, 1, 3, 4] rfl, (rg_mono hx_205 (by decide) (by decide)), (rg_mono hx_204 (by decide) (by decide))⟩ (by show ((9) - x_205.toInt).toNat < ((9) - x_167.toInt).toNat; have ha := h_189; simp only [rg] at ha; omega)
      · skip
        refine lv_iconst (v := 0) hx hb dX0_mayLead_43 (by decide) ?_
        have hP9 := hP.sub (ws' := [(h0, .inr (0, [.ref h1, .ref h2, .ref h3, .ref h4, .ref h5, .ref h6, .int a0, .int a1, .int a2, .int a3])), (h6, .inl (cI, 9, .inl g5))]) [0, 1] rfl
        have hD9 := hD.sub (ws' := [(h0, .inr (0, [.ref h1, .ref h2, .ref h3, .ref h4, .ref h5, .ref h6, .int a0, .int a1, .int a2, .int a3])), (h6, .inl (cI, 9, .inl g5))]) [0, 1] (by decide) rfl
        exact W.zret (v := 0) hx hb hr (rfl) (fun t ht hW => ⟨⟨0, (), rfl, (rg_mono (rg_k (x := 0) (c := 0) (by decide)) (by decide) (by decide)), ⟨by rw [ht]; exact hP9, hD9⟩⟩, hS.F ht⟩) hS.2.2 dX0_mayLead_44
def v_s_X0_keepApart : List Cond := Cond.code yX0_keepApart cX0_keepApart 5 none :: ([Cond.fieldLink RX0 11 "MayRings$Families" "sets" "[I", Cond.fieldLink RX0 34 "MayRings$Families" "restCount" "I", Cond.fieldLink RX0 30 "MayRings$Families" "count" "I", Cond.fieldLink RX0 18 "MayRings$Families" "rest" "[I"] ++ (wsX00 ++ ([])))
theorem k_s_X0_keepApart : GoodIn lw_tbl v_s_X0_keepApart := gd_c (List.mem_of_getElem? (i := 1078) (by decide +kernel)) rfl (goodIn_app (gd_c (List.mem_of_getElem? (i := 500) (by decide +kernel)) rfl (gd_c (List.mem_of_getElem? (i := 507) (by decide +kernel)) rfl (gd_c (List.mem_of_getElem? (i := 506) (by decide +kernel)) rfl (gd_c (List.mem_of_getElem? (i := 502) (by decide +kernel)) rfl (gd_nil))))) (goodIn_app kfX0 (gd_nil)))
set_option maxHeartbeats 2000000 in
set_option maxRecDepth 100000 in
theorem c_s_X0_keepApart (l : Launch) (dC : Nat → ClassId) (dI : Nat → Nat → Nat) (cB cI cJ cZ cP : ClassId) (h0 : Nat) (h1 : Nat) (g0 : Nat → Int32) (h2 : Nat) (h3 : Nat) (g2 : Nat → Int32) (h4 : Nat) (h5 : Nat) (h6 : Nat) (a0 : Int32) (ha0 : rg (0) (2520) a0) (a1 : Int32) (a2 : Int32) (a3 : Int32) (p0 : Int32) (hp0 : rg (0) (2519) p0) (p1 : Int32) (hp1 : rg (0) (2520) p1) (sz : Nat) : Met l yX0_keepApart v_s_X0_keepApart ({ frames := 0, cells := 0, slots := 0, locals := 0 }) (va_Pc [.ref h0, .int p0, .int p1] (fun U => U.heap.size = sz ∧ va_P (dC, dI) vwCl [(h0, .inr (0, [.ref h1, .ref h2, .ref h3, .ref h4, .ref h5, .ref h6, .int a0, .int a1, .int a2, .int a3])), (h1, .inl (cI, 2520, .inl g0)), (h3, .inl (cI, 2520, .inl g2))] U.heap ∧ va_K (dC, dI) vwCl (ty5 cB cI cJ cZ cP) U ∧ va_D (fun _ => True) [(h0, .inr (0, [.ref h1, .ref h2, .ref h3, .ref h4, .ref h5, .ref h6, .int a0, .int a1, .int a2, .int a3])), (h1, .inl (cI, 2520, .inl g0)), (h3, .inl (cI, 2520, .inl g2))])) (va_Qv (fun _ : Unit => True) (fun _ t => ∃ (z0 : Int32) (z1 : Nat → Int32), rg (0) (2520) z0 ∧ va_P (dC, dI) vwCl [(h0, .inr (0, [.ref h1, .ref h2, .ref h3, .ref h4, .ref h5, .ref h6, .int a0, .int z0, .int a2, .int a3])), (h1, .inl (cI, 2520, .inl g0)), (h3, .inl (cI, 2520, .inl z1))] t.heap ∧ va_D (va_A [(h0, .inr (0, [.ref h1, .ref h2, .ref h3, .ref h4, .ref h5, .ref h6, .int a0, .int a1, .int a2, .int a3])), (h1, .inl (cI, 2520, .inl g0)), (h3, .inl (cI, 2520, .inl g2))] sz) [(h0, .inr (0, [.ref h1, .ref h2, .ref h3, .ref h4, .ref h5, .ref h6, .int a0, .int z0, .int a2, .int a3])), (h1, .inl (cI, 2520, .inl g0)), (h3, .inl (cI, 2520, .inl z1))]) (va_A [(h0, .inr (0, [.ref h1, .ref h2, .ref h3, .ref h4, .ref h5, .ref h6, .int a0, .int a1, .int a2, .int a3])), (h1, .inl (cI, 2520, .inl g0)), (h3, .inl (cI, 2520, .inl g2))] sz)) 0 0 (va_A [(h0, .inr (0, [.ref h1, .ref h2, .ref h3, .ref h4, .ref h5, .ref h6, .int a0, .int a1, .int a2, .int a3])), (h1, .inl (cI, 2520, .inl g0)), (h3, .inl (cI, 2520, .inl g2))] sz) := by
  refine Met.ofW (cc := cX0_keepApart) (maxL := 5) (ret := none) (by decide) rfl ?_
  intro p e s m args below meth c s₁ B hml hv
  obtain ⟨rfl, hsz, hP, hK, hD0⟩ := hv
  have hx := B.exec
  have hb := B.bytes
  have hr := B.returns
  have hts := atoms_spec (ws := v_s_X0_keepApart) B.pre
  have hown : s.vm.findClass RX0 = some m.cls := findClass_of_methodNamed B.named
  have hlocks := B.notSynchronized
  have hinX0 : ∀ w ∈ wsX00, w ∈ v_s_X0_keepApart := fun _ h => List.mem_cons_of_mem _ (List.mem_append_right _ (List.mem_append_left _ h))
  subst hsz
  have hD := hD0.self (sz := s.heap.size)
  generalize hAe : va_A [(h0, .inr (0, [.ref h1, .ref h2, .ref h3, .ref h4, .ref h5, .ref h6, .int a0, .int a1, .int a2, .int a3])), (h1, .inl (cI, 2520, .inl g0)), (h3, .inl (cI, 2520, .inl g2))] s.heap.size = A at hD ⊢
  have hA : ∀ q : Nat, s.heap.size ≤ q → A q := fun q h => by rw [← hAe]; exact Or.inr h
  have hP : va_P (dC, dI) vwCl [(h0, .inr (0, [.ref h1, .ref h2, .ref h3, .ref h4, .ref h5, .ref h6, .int a0, .int a1, .int a2, .int a3])), (h1, .inl (cI, 2520, .inl g0)), (h3, .inl (cI, 2520, .inl g2))] s.heap := hP
  have hl := lv_entry ([.ref h0, .int p0, .int p1]) (n := 5) (Nat.le_of_ble_eq_true rfl)
  rw [lg_entry_eq]
  generalize (lg_sl ([.ref h0, .int p0, .int p1]) ++ List.replicate (5 - (lg_sl ([.ref h0, .int p0, .int p1])).length) Slot.unset).toArray = ls at hl ⊢
  have hl : lv_has ls 5 [(0, .ref h0), (1, .int p0), (2, .int p1)] := hl
  refine W_gen (A := A) hP (fun H locs hP hS => ?_)
  refine lv_aload_n hx hb dX0_keepApart_0 rfl (lv_at hl 0 rfl) ?_
  refine va_get (D := (dC, dI)) (ci := 0) (v := .ref h1) (C := RX0) (T := TX0) (N := 10) hx hb hts hinX0 hown hK hP 0 rfl rfl 0 (by decide) (hts (.fieldLink RX0 11 "MayRings$Families" "sets" "[I") (List.mem_of_getElem? (i := 1) rfl)) (fun _ h9 => h9) rfl dX0_keepApart_1 ?_
  refine lv_iload_n hx hb dX0_keepApart_4 rfl (lv_at hl 1 rfl) ?_
  refine va_iald hx hb hK hP 1 1 rfl rfl (rg_in (n := 2520) (rg_mono hp0 (by decide) (by decide))) dX0_keepApart_5 ?_
  refine lv_topi (fun x_1 ex_1 => ?_)
  refine lv_istore_n (lv' := [(3, .int x_1), (0, .ref h0), (1, .int p0), (2, .int p1)]) hx hb dX0_keepApart_6 rfl hl (by decide) rfl (fun ls hl => ?_)
  refine lv_aload_n hx hb dX0_keepApart_7 rfl (lv_at hl 1 rfl) ?_
  refine lv_iconst (v := 0) hx hb dX0_keepApart_8 (by decide) ?_
  refine va_put (D := (dC, dI)) (ci := 0) (v := .int 0) (ty := .int) (C := RX0) (T := TX0) (N := 10) hx hb hts hinX0 tyX0 tyX0_ok nmX0 hown hK hP hD hS 0 rfl rfl 7 (by decide) (hts (.fieldLink RX0 34 "MayRings$Families" "restCount" "I") (List.mem_of_getElem? (i := 2) rfl)) (fun _ h9 => h9) rfl (by decide +kernel) (rfl) (rfl) (Nat.le_of_ble_eq_true rfl) dX0_keepApart_9 (fun H locs hP hD hS => ?_)
  replace hP : va_P (dC, dI) vwCl [(h0, .inr (0, [.ref h1, .ref h2, .ref h3, .ref h4, .ref h5, .ref h6, .int a0, .int 0, .int a2, .int a3])), (h1, .inl (cI, 2520, .inl g0)), (h3, .inl (cI, 2520, .inl g2))] H := hP
  replace hD : va_D A [(h0, .inr (0, [.ref h1, .ref h2, .ref h3, .ref h4, .ref h5, .ref h6, .int a0, .int 0, .int a2, .int a3])), (h1, .inl (cI, 2520, .inl g0)), (h3, .inl (cI, 2520, .inl g2))] := hD
  refine lv_iload_n hx hb dX0_keepApart_12 rfl (lv_at hl 3 rfl) ?_
  refine lv_istore (lv' := [(4, .int p1), (3, .int x_1), (0, .ref h0), (1, .int p0), (2, .int p1)]) hx hb dX0_keepApart_13 hl (by decide) rfl (fun ls hl => ?_)
  refine W_loopM (σ := Int32 × (Nat → Int32) × Int32) (fun u H locs ls => va_P (dC, dI) vwCl [(h0, .inr (0, [.ref h1, .ref h2, .ref h3, .ref h4, .ref h5, .ref h6, .int a0, .int u.2.2, .int a2, .int a3])), (h1, .inl (cI, 2520, .inl g0)), (h3, .inl (cI, 2520, .inl u.2.1))] H ∧ va_D A [(h0, .inr (0, [.ref h1, .ref h2, .ref h3, .ref h4, .ref h5, .ref h6, .int a0, .int u.2.2, .int a2, .int a3])), (h1, .inl (cI, 2520, .inl g0)), (h3, .inl (cI, 2520, .inl u.2.1))] ∧ va_S A s.heap H locs ∧ lv_has ls 5 [(4, .int u.1), (3, .int x_1), (0, .ref h0), (1, .int p0), (2, .int p1)] ∧ rg (0) (2520) u.1 ∧ rg (0) (2520) u.2.2 ∧ (u.2.2.toInt ≤ u.1.toInt)) (fun u => ((2520) - u.1.toInt).toNat) 15 [] ?_ (p1, g2, 0) H locs ls ⟨hP, hD, hS, hl, (rg_mono hp1 (by decide) (by decide)), (rg_mono (rg_k (x := 0) (c := 0) (by decide)) (by decide) (by decide)), (show (0 : Int32).toInt ≤ p1.toInt by have hg0 := hp1; simp only [rg] at hg0; (try simp only [(by decide : (0 : Int32).toInt = 0)]); omega)⟩
  rintro ⟨x_29, f_30, x_31⟩ H locs ls ⟨hP, hD, hS, hl, hx_29, hx_31, ivih_45_0⟩ ih_45
  replace ivih_45_0 : x_31.toInt ≤ x_29.toInt := ivih_45_0
  replace hP : va_P (dC, dI) vwCl [(h0, .inr (0, [.ref h1, .ref h2, .ref h3, .ref h4, .ref h5, .ref h6, .int a0, .int x_31, .int a2, .int a3])), (h1, .inl (cI, 2520, .inl g0)), (h3, .inl (cI, 2520, .inl f_30))] H := hP
  replace hD : va_D A [(h0, .inr (0, [.ref h1, .ref h2, .ref h3, .ref h4, .ref h5, .ref h6, .int a0, .int x_31, .int a2, .int a3])), (h1, .inl (cI, 2520, .inl g0)), (h3, .inl (cI, 2520, .inl f_30))] := hD
  replace hl : lv_has ls 5 [(4, .int x_29), (3, .int x_1), (0, .ref h0), (1, .int p0), (2, .int p1)] := hl
  replace hx_29 : rg (0) (2520) x_29 := hx_29
  replace hx_31 : rg (0) (2520) x_31 := hx_31
  refine lv_iload hx hb dX0_keepApart_15 (lv_at hl 0 rfl) ?_
  refine lv_aload_n hx hb dX0_keepApart_17 rfl (lv_at hl 2 rfl) ?_
  refine va_get (D := (dC, dI)) (ci := 0) (v := .int a0) (C := RX0) (T := TX0) (N := 10) hx hb hts hinX0 hown hK hP 0 rfl rfl 6 (by decide) (hts (.fieldLink RX0 30 "MayRings$Families" "count" "I") (List.mem_of_getElem? (i := 3) rfl)) (fun _ h9 => h9) rfl dX0_keepApart_18 ?_
  refine lv_icmp_ge (tgt := 68) hx hb dX0_keepApart_21 (by decide) (fun c_46 => ?_) (fun c_46 => ?_)
  · skip
    have hP9 := hP.sub (ws' := [(h0, .inr (0, [.ref h1, .ref h2, .ref h3, .ref h4, .ref h5, .ref h6, .int a0, .int x_31, .int a2, .int a3])), (h1, .inl (cI, 2520, .inl g0)), (h3, .inl (cI, 2520, .inl f_30))]) [0, 1, 2] rfl
    have hD9 := hD.sub (ws' := [(h0, .inr (0, [.ref h1, .ref h2, .ref h3, .ref h4, .ref h5, .ref h6, .int a0, .int x_31, .int a2, .int a3])), (h1, .inl (cI, 2520, .inl g0)), (h3, .inl (cI, 2520, .inl f_30))]) [0, 1, 2] (by decide) rfl
    exact W.vret hx hb hr (fun t ht hW => ⟨⟨(), rfl, trivial, ⟨x_31, f_30, (rg_mono hx_31 (by decide) (by decide)), by rw [ht]; exact hP9, hD9⟩⟩, hS.F ht⟩) hS.2.2 dX0_keepApart_68
  · skip
    have h_47 : rg (0) (2519) x_29 := by have ha := hx_29; have hb_ := ha0; simp only [rg, fa_lt, fa_le, fa_eq] at ha hb_ c_46; simp only [rg]; omega
    have h_48 : rg (1) (2520) a0 := by have ha := h_47; have hb_ := ha0; have hc_ := c_46; simp only [rg, fa_lt, fa_le, fa_eq] at ha hb_ hc_; simp only [rg]; omega
    have h_49 : rg (1) (2520) a0 := by have ha := hx_29; have hb_ := ha0; simp only [rg, fa_lt, fa_le, fa_eq] at ha hb_ c_46; simp only [rg]; omega
    refine lv_aload_n hx hb dX0_keepApart_24 rfl (lv_at hl 2 rfl) ?_
    refine va_get (D := (dC, dI)) (ci := 0) (v := .ref h1) (C := RX0) (T := TX0) (N := 10) hx hb hts hinX0 hown hK hP 0 rfl rfl 0 (by decide) (hts (.fieldLink RX0 11 "MayRings$Families" "sets" "[I") (List.mem_of_getElem? (i := 1) rfl)) (fun _ h9 => h9) rfl dX0_keepApart_25 ?_
    refine lv_iload hx hb dX0_keepApart_28 (lv_at hl 0 rfl) ?_
    refine va_iald hx hb hK hP 1 1 rfl rfl (rg_in (n := 2520) (rg_mono h_47 (by decide) (by decide))) dX0_keepApart_30 ?_
    refine lv_topi (fun x_50 ex_50 => ?_)
    refine lv_iload_n hx hb dX0_keepApart_31 rfl (lv_at hl 1 rfl) ?_
    refine lv_iand hx hb dX0_keepApart_32 ?_
    refine lv_topi (fun x_51 ex_51 => ?_)
    refine lv_if_ne (tgt := 62) hx hb dX0_keepApart_33 (by decide) (fun c_52 => ?_) (fun c_52 => ?_)
    · skip
      obtain ⟨x_53, ex_53⟩ : ∃ y : Int32, y = x_29 + Int32.ofInt (1) := ⟨_, rfl⟩
      have hx_53 : rg (1) (2520) x_53 := by rw [ex_53]; exact rg_mono (rg_add h_47 (rg_k (x := Int32.ofInt (1)) (c := 1) (by decide)) (by decide) (by decide)) (by decide) (by decide)
      have qx_53 : x_53.toInt = x_29.toInt + (1) := by rw [ex_53]; exact rg_addE h_47 (rg_k (x := Int32.ofInt (1)) (c := 1) (by decide)) (by decide) (by decide) (by decide)
      refine lv_iinc (v := x_53) (lv' := [(4, .int x_53), (3, .int x_1), (0, .ref h0), (1, .int p0), (2, .int p1)]) hx hb dX0_keepApart_62 hl (k := 0) rfl (ex_53.symm) (by decide) rfl (fun ls hl => ?_)
      clear ex_53
      refine lv_goto (tgt := 15) hx hb dX0_keepApart_65 (by decide) ?_
      exact ih_45 (x_53, f_30, x_31) H locs ls ⟨hP.sub (ws' := [(h0, .inr (0, [.ref h1, .ref h2, .ref h3, .ref h4, .ref h5, .ref h6, .int a0, .int x_31, .int a2, .int a3])), (h1, .inl (cI, 2520, .inl g0)), (h3, .inl (cI, 2520, .inl f_30))]) [0, 1, 2] rfl, hD.sub (ws' := [(h0, .inr (0, [.ref h1, .ref h2, .ref h3, .ref h4, .ref h5, .ref h6, .int a0, .int x_31, .int a2, .int a3])), (h1, .inl (cI, 2520, .inl g0)), (h3, .inl (cI, 2520, .inl f_30))]) [0, 1, 2] (by decide) rfl, hS, lv_sub hl [0, 1, 2, 3, 4] rfl, (rg_mono hx_53 (by decide) (by decide)), (rg_mono hx_31 (by decide) (by decide)), (show x_31.toInt ≤ x_53.toInt by have hg0 := hx_53; have hg1 := hx_31; simp only [rg] at hg0 hg1; omega)⟩ (by show ((2520) - x_53.toInt).toNat < ((2520) - x_29.toInt).toNat; have ha := h_47; simp only [rg] at ha; omega)
    · skip
      have h_54 : rg (0) (0) x_51 := by have ha := (rg_any x_51); have hb_ := (rg_k (x := 0) (c := 0) (by decide)); simp only [rg, fa_lt, fa_le, fa_eq, (by decide : (0 : Int32).toInt = 0)] at ha hb_ c_52; simp only [rg]; omega
      refine lv_aload_n hx hb dX0_keepApart_36 rfl (lv_at hl 2 rfl) ?_
      refine va_get (D := (dC, dI)) (ci := 0) (v := .ref h3) (C := RX0) (T := TX0) (N := 10) hx hb hts hinX0 hown hK hP 0 rfl rfl 2 (by decide) (hts (.fieldLink RX0 18 "MayRings$Families" "rest" "[I") (List.mem_of_getElem? (i := 4) rfl)) (fun _ h9 => h9) rfl dX0_keepApart_37 ?_
      refine lv_aload_n hx hb dX0_keepApart_40 rfl (lv_at hl 2 rfl) ?_
      refine va_get (D := (dC, dI)) (ci := 0) (v := .int x_31) (C := RX0) (T := TX0) (N := 10) hx hb hts hinX0 hown hK hP 0 rfl rfl 7 (by decide) (hts (.fieldLink RX0 34 "MayRings$Families" "restCount" "I") (List.mem_of_getElem? (i := 2) rfl)) (fun _ h9 => h9) rfl dX0_keepApart_41 ?_
      have h_55 : rg 0 2519 x_31 := by have ha := hx_31; have hb_ := h_47; simp only [rg] at ha hb_ ⊢; omega
      refine lv_aload_n hx hb dX0_keepApart_44 rfl (lv_at hl 2 rfl) ?_
      refine va_get (D := (dC, dI)) (ci := 0) (v := .ref h1) (C := RX0) (T := TX0) (N := 10) hx hb hts hinX0 hown hK hP 0 rfl rfl 0 (by decide) (hts (.fieldLink RX0 11 "MayRings$Families" "sets" "[I") (List.mem_of_getElem? (i := 1) rfl)) (fun _ h9 => h9) rfl dX0_keepApart_45 ?_
      refine lv_iload hx hb dX0_keepApart_48 (lv_at hl 0 rfl) ?_
      refine va_iald hx hb hK hP 1 1 rfl rfl (rg_in (n := 2520) (rg_mono h_47 (by decide) (by decide))) dX0_keepApart_50 ?_
      refine tp_v (.int x_50) (congrArg Value.int (ex_50.symm)) ?_
      refine va_iast hx hb hK hP hD hS 2 1 rfl rfl (rg_in (n := 2520) (rg_mono h_55 (by decide) (by decide))) dX0_keepApart_51 (fun H locs hP hD hS => ?_)
      obtain ⟨f_56, ef_56⟩ : ∃ f : Nat → Int32, f = upd f_30 (x_31 : Int32).toNatClampNeg x_50 := ⟨_, rfl⟩
      rw [← ef_56] at hP hD
      clear ef_56
      replace hP : va_P (dC, dI) vwCl [(h0, .inr (0, [.ref h1, .ref h2, .ref h3, .ref h4, .ref h5, .ref h6, .int a0, .int x_31, .int a2, .int a3])), (h1, .inl (cI, 2520, .inl g0)), (h3, .inl (cI, 2520, .inl f_56))] H := hP
      replace hD : va_D A [(h0, .inr (0, [.ref h1, .ref h2, .ref h3, .ref h4, .ref h5, .ref h6, .int a0, .int x_31, .int a2, .int a3])), (h1, .inl (cI, 2520, .inl g0)), (h3, .inl (cI, 2520, .inl f_56))] := hD
      refine lv_aload_n hx hb dX0_keepApart_52 rfl (lv_at hl 2 rfl) ?_
      refine lv_dup hx hb dX0_keepApart_53 rfl ?_
      refine va_get (D := (dC, dI)) (ci := 0) (v := .int x_31) (C := RX0) (T := TX0) (N := 10) hx hb hts hinX0 hown hK hP 0 rfl rfl 7 (by decide) (hts (.fieldLink RX0 34 "MayRings$Families" "restCount" "I") (List.mem_of_getElem? (i := 2) rfl)) (fun _ h9 => h9) rfl dX0_keepApart_54 ?_
      refine lv_iconst (v := 1) hx hb dX0_keepApart_57 (by decide) ?_
      refine lv_iadd hx hb dX0_keepApart_58 ?_
      refine lv_topi (fun x_57 ex_57 => ?_)
      have hx_57 : rg (1) (2520) x_57 := by rw [ex_57]; exact rg_mono (rg_add h_55 (rg_k (x := 1) (c := 1) (by decide)) (by decide) (by decide)) (by decide) (by decide)
      have qx_57 : x_57.toInt = x_31.toInt + (1) := by rw [ex_57]; exact rg_addE h_55 (rg_k (x := 1) (c := 1) (by decide)) (by decide) (by decide) trivial
      refine va_put (D := (dC, dI)) (ci := 0) (v := .int x_57) (ty := .int) (C := RX0) (T := TX0) (N := 10) hx hb hts hinX0 tyX0 tyX0_ok nmX0 hown hK hP hD hS 0 rfl rfl 7 (by decide) (hts (.fieldLink RX0 34 "MayRings$Families" "restCount" "I") (List.mem_of_getElem? (i := 2) rfl)) (fun _ h9 => h9) rfl (by decide +kernel) (rfl) (rfl) (Nat.le_of_ble_eq_true rfl) dX0_keepApart_59 (fun H locs hP hD hS => ?_)
      replace hP : va_P (dC, dI) vwCl [(h0, .inr (0, [.ref h1, .ref h2, .ref h3, .ref h4, .ref h5, .ref h6, .int a0, .int x_57, .int a2, .int a3])), (h1, .inl (cI, 2520, .inl g0)), (h3, .inl (cI, 2520, .inl f_56))] H := hP
      replace hD : va_D A [(h0, .inr (0, [.ref h1, .ref h2, .ref h3, .ref h4, .ref h5, .ref h6, .int a0, .int x_57, .int a2, .int a3])), (h1, .inl (cI, 2520, .inl g0)), (h3, .inl (cI, 2520, .inl f_56))] := hD
      obtain ⟨x_58, ex_58⟩ : ∃ y : Int32, y = x_29 + Int32.ofInt (1) := ⟨_, rfl⟩
      have hx_58 : rg (1) (2520) x_58 := by rw [ex_58]; exact rg_mono (rg_add h_47 (rg_k (x := Int32.ofInt (1)) (c := 1) (by decide)) (by decide) (by decide)) (by decide) (by decide)
      have qx_58 : x_58.toInt = x_29.toInt + (1) := by rw [ex_58]; exact rg_addE h_47 (rg_k (x := Int32.ofInt (1)) (c := 1) (by decide)) (by decide) (by decide) (by decide)
      refine lv_iinc (v := x_58) (lv' := [(4, .int x_58), (3, .int x_1), (0, .ref h0), (1, .int p0), (2, .int p1)]) hx hb dX0_keepApart_62 hl (k := 0) rfl (ex_58.symm) (by decide) rfl (fun ls hl => ?_)
      clear ex_58
      refine lv_goto (tgt := 15) hx hb dX0_keepApart_65 (by decide) ?_
      exact ih_45 (x_58, f_56, x_57) H locs ls ⟨hP.sub (ws' := [(h0, .inr (0, [.ref h1, .ref h2, .ref h3, .ref h4, .ref h5, .ref h6, .int a0, .int x_57, .int a2, .int a3])), (h1, .inl (cI, 2520, .inl g0)), (h3, .inl (cI, 2520, .inl f_56))]) [0, 1, 2] rfl, hD.sub (ws' := [(h0, .inr (0, [.ref h1, .ref h2, .ref h3, .ref h4, .ref h5, .ref h6, .int a0, .int x_57, .int a2, .int a3])), (h1, .inl (cI, 2520, .inl g0)), (h3, .inl (cI, 2520, .inl f_56))]) [0, 1, 2] (by decide) rfl, hS, lv_sub hl [0, 1, 2, 3, 4] rfl, (rg_mono hx_58 (by decide) (by decide)), (rg_mono hx_57 (by decide) (by decide)), (show x_57.toInt ≤ x_58.toInt by have hg0 := hx_58; have hg1 := hx_57; simp only [rg] at hg0 hg1; omega)⟩ (by show ((2520) - x_58.toInt).toNat < ((2520) - x_29.toInt).toNat; have ha := h_47; simp only [rg] at ha; omega)
def v_s_X0_hasApart : List Cond := Cond.code yX0_hasApart cX0_hasApart 4 (some .boolean) :: ([Cond.fieldLink RX0 34 "MayRings$Families" "restCount" "I", Cond.fieldLink RX0 18 "MayRings$Families" "rest" "[I"] ++ (wsX00 ++ ([])))
theorem k_s_X0_hasApart : GoodIn lw_tbl v_s_X0_hasApart := gd_c (List.mem_of_getElem? (i := 1086) (by decide +kernel)) rfl (goodIn_app (gd_c (List.mem_of_getElem? (i := 507) (by decide +kernel)) rfl (gd_c (List.mem_of_getElem? (i := 502) (by decide +kernel)) rfl (gd_nil))) (goodIn_app kfX0 (gd_nil)))
set_option maxHeartbeats 2000000 in
set_option maxRecDepth 100000 in
theorem c_s_X0_hasApart (l : Launch) (dC : Nat → ClassId) (dI : Nat → Nat → Nat) (cB cI cJ cZ cP : ClassId) (h0 : Nat) (h1 : Nat) (h2 : Nat) (h3 : Nat) (g2 : Nat → Int32) (h4 : Nat) (h5 : Nat) (h6 : Nat) (a0 : Int32) (a1 : Int32) (ha1 : rg (0) (2520) a1) (a2 : Int32) (a3 : Int32) (p0 : Int32) (p1 : Int32) (hp1 : rg (0) (2520) p1) (sz : Nat) : Met l yX0_hasApart v_s_X0_hasApart ({ frames := 0, cells := 0, slots := 0, locals := 0 }) (va_Pc [.ref h0, .int p0, .int p1] (fun U => U.heap.size = sz ∧ va_P (dC, dI) vwCl [(h0, .inr (0, [.ref h1, .ref h2, .ref h3, .ref h4, .ref h5, .ref h6, .int a0, .int a1, .int a2, .int a3])), (h3, .inl (cI, 2520, .inl g2))] U.heap ∧ va_K (dC, dI) vwCl (ty5 cB cI cJ cZ cP) U ∧ va_D (fun _ => True) [(h0, .inr (0, [.ref h1, .ref h2, .ref h3, .ref h4, .ref h5, .ref h6, .int a0, .int a1, .int a2, .int a3])), (h3, .inl (cI, 2520, .inl g2))])) (va_Qi (fun (r : Int32) (u9 : Unit) => rg (0) (1) r) (fun u9 t => va_P (dC, dI) vwCl [(h0, .inr (0, [.ref h1, .ref h2, .ref h3, .ref h4, .ref h5, .ref h6, .int a0, .int a1, .int a2, .int a3])), (h3, .inl (cI, 2520, .inl g2))] t.heap ∧ va_D (va_A [(h0, .inr (0, [.ref h1, .ref h2, .ref h3, .ref h4, .ref h5, .ref h6, .int a0, .int a1, .int a2, .int a3])), (h3, .inl (cI, 2520, .inl g2))] sz) [(h0, .inr (0, [.ref h1, .ref h2, .ref h3, .ref h4, .ref h5, .ref h6, .int a0, .int a1, .int a2, .int a3])), (h3, .inl (cI, 2520, .inl g2))]) (va_A [(h0, .inr (0, [.ref h1, .ref h2, .ref h3, .ref h4, .ref h5, .ref h6, .int a0, .int a1, .int a2, .int a3])), (h3, .inl (cI, 2520, .inl g2))] sz)) 0 0 (va_A [(h0, .inr (0, [.ref h1, .ref h2, .ref h3, .ref h4, .ref h5, .ref h6, .int a0, .int a1, .int a2, .int a3])), (h3, .inl (cI, 2520, .inl g2))] sz) := by
  refine Met.ofW (cc := cX0_hasApart) (maxL := 4) (ret := (some .boolean)) (by decide) rfl ?_
  intro p e s m args below meth c s₁ B hml hv
  obtain ⟨rfl, hsz, hP, hK, hD0⟩ := hv
  have hx := B.exec
  have hb := B.bytes
  have hr := B.returns
  have hts := atoms_spec (ws := v_s_X0_hasApart) B.pre
  have hown : s.vm.findClass RX0 = some m.cls := findClass_of_methodNamed B.named
  have hlocks := B.notSynchronized
  have hinX0 : ∀ w ∈ wsX00, w ∈ v_s_X0_hasApart := fun _ h => List.mem_cons_of_mem _ (List.mem_append_right _ (List.mem_append_left _ h))
  subst hsz
  have hD := hD0.self (sz := s.heap.size)
  generalize hAe : va_A [(h0, .inr (0, [.ref h1, .ref h2, .ref h3, .ref h4, .ref h5, .ref h6, .int a0, .int a1, .int a2, .int a3])), (h3, .inl (cI, 2520, .inl g2))] s.heap.size = A at hD ⊢
  have hA : ∀ q : Nat, s.heap.size ≤ q → A q := fun q h => by rw [← hAe]; exact Or.inr h
  have hP : va_P (dC, dI) vwCl [(h0, .inr (0, [.ref h1, .ref h2, .ref h3, .ref h4, .ref h5, .ref h6, .int a0, .int a1, .int a2, .int a3])), (h3, .inl (cI, 2520, .inl g2))] s.heap := hP
  have hl := lv_entry ([.ref h0, .int p0, .int p1]) (n := 4) (Nat.le_of_ble_eq_true rfl)
  rw [lg_entry_eq]
  generalize (lg_sl ([.ref h0, .int p0, .int p1]) ++ List.replicate (4 - (lg_sl ([.ref h0, .int p0, .int p1])).length) Slot.unset).toArray = ls at hl ⊢
  have hl : lv_has ls 4 [(0, .ref h0), (1, .int p0), (2, .int p1)] := hl
  refine W_gen (A := A) hP (fun H locs hP hS => ?_)
  refine lv_iload_n hx hb dX0_hasApart_0 rfl (lv_at hl 2 rfl) ?_
  refine lv_istore_n (lv' := [(3, .int p1), (0, .ref h0), (1, .int p0), (2, .int p1)]) hx hb dX0_hasApart_1 rfl hl (by decide) rfl (fun ls hl => ?_)
  refine W_loopM (σ := Int32) (fun u H locs ls => va_P (dC, dI) vwCl [(h0, .inr (0, [.ref h1, .ref h2, .ref h3, .ref h4, .ref h5, .ref h6, .int a0, .int a1, .int a2, .int a3])), (h3, .inl (cI, 2520, .inl g2))] H ∧ va_D A [(h0, .inr (0, [.ref h1, .ref h2, .ref h3, .ref h4, .ref h5, .ref h6, .int a0, .int a1, .int a2, .int a3])), (h3, .inl (cI, 2520, .inl g2))] ∧ va_S A s.heap H locs ∧ lv_has ls 4 [(3, .int u), (0, .ref h0), (1, .int p0), (2, .int p1)] ∧ rg (0) (2520) u) (fun u => ((2520) - u.toInt).toNat) 2 [] ?_ (p1) H locs ls ⟨hP, hD, hS, hl, (rg_mono hp1 (by decide) (by decide))⟩
  rintro x_10 H locs ls ⟨hP, hD, hS, hl, hx_10⟩ ih_20
  replace hP : va_P (dC, dI) vwCl [(h0, .inr (0, [.ref h1, .ref h2, .ref h3, .ref h4, .ref h5, .ref h6, .int a0, .int a1, .int a2, .int a3])), (h3, .inl (cI, 2520, .inl g2))] H := hP
  replace hD : va_D A [(h0, .inr (0, [.ref h1, .ref h2, .ref h3, .ref h4, .ref h5, .ref h6, .int a0, .int a1, .int a2, .int a3])), (h3, .inl (cI, 2520, .inl g2))] := hD
  replace hl : lv_has ls 4 [(3, .int x_10), (0, .ref h0), (1, .int p0), (2, .int p1)] := hl
  replace hx_10 : rg (0) (2520) x_10 := hx_10
  refine lv_iload_n hx hb dX0_hasApart_2 rfl (lv_at hl 0 rfl) ?_
  refine lv_aload_n hx hb dX0_hasApart_3 rfl (lv_at hl 1 rfl) ?_
  refine va_get (D := (dC, dI)) (ci := 0) (v := .int a1) (C := RX0) (T := TX0) (N := 10) hx hb hts hinX0 hown hK hP 0 rfl rfl 7 (by decide) (hts (.fieldLink RX0 34 "MayRings$Families" "restCount" "I") (List.mem_of_getElem? (i := 1) rfl)) (fun _ h9 => h9) rfl dX0_hasApart_4 ?_
  refine lv_icmp_ge (tgt := 29) hx hb dX0_hasApart_7 (by decide) (fun c_21 => ?_) (fun c_21 => ?_)
  · skip
    refine lv_iconst (v := 0) hx hb dX0_hasApart_29 (by decide) ?_
    have hP9 := hP.sub (ws' := [(h0, .inr (0, [.ref h1, .ref h2, .ref h3, .ref h4, .ref h5, .ref h6, .int a0, .int a1, .int a2, .int a3])), (h3, .inl (cI, 2520, .inl g2))]) [0, 1] rfl
    have hD9 := hD.sub (ws' := [(h0, .inr (0, [.ref h1, .ref h2, .ref h3, .ref h4, .ref h5, .ref h6, .int a0, .int a1, .int a2, .int a3])), (h3, .inl (cI, 2520, .inl g2))]) [0, 1] (by decide) rfl
    exact W.zret (v := 0) hx hb hr (rfl) (fun t ht hW => ⟨⟨0, (), rfl, (rg_mono (rg_k (x := 0) (c := 0) (by decide)) (by decide) (by decide)), ⟨by rw [ht]; exact hP9, hD9⟩⟩, hS.F ht⟩) hS.2.2 dX0_hasApart_30
  · skip
    have h_22 : rg (0) (2519) x_10 := by have ha := hx_10; have hb_ := ha1; simp only [rg, fa_lt, fa_le, fa_eq] at ha hb_ c_21; simp only [rg]; omega
    have h_23 : rg (1) (2520) a1 := by have ha := h_22; have hb_ := ha1; have hc_ := c_21; simp only [rg, fa_lt, fa_le, fa_eq] at ha hb_ hc_; simp only [rg]; omega
    have h_24 : rg (1) (2520) a1 := by have ha := hx_10; have hb_ := ha1; simp only [rg, fa_lt, fa_le, fa_eq] at ha hb_ c_21; simp only [rg]; omega
    refine lv_aload_n hx hb dX0_hasApart_10 rfl (lv_at hl 1 rfl) ?_
    refine va_get (D := (dC, dI)) (ci := 0) (v := .ref h3) (C := RX0) (T := TX0) (N := 10) hx hb hts hinX0 hown hK hP 0 rfl rfl 2 (by decide) (hts (.fieldLink RX0 18 "MayRings$Families" "rest" "[I") (List.mem_of_getElem? (i := 2) rfl)) (fun _ h9 => h9) rfl dX0_hasApart_11 ?_
    refine lv_iload_n hx hb dX0_hasApart_14 rfl (lv_at hl 0 rfl) ?_
    refine va_iald hx hb hK hP 1 1 rfl rfl (rg_in (n := 2520) (rg_mono h_22 (by decide) (by decide))) dX0_hasApart_15 ?_
    refine lv_topi (fun x_25 ex_25 => ?_)
    refine lv_iload_n hx hb dX0_hasApart_16 rfl (lv_at hl 2 rfl) ?_
    refine lv_iand hx hb dX0_hasApart_17 ?_
    refine lv_topi (fun x_26 ex_26 => ?_)
    refine lv_if_ne (tgt := 23) hx hb dX0_hasApart_18 (by decide) (fun c_27 => ?_) (fun c_27 => ?_)
    · skip
      obtain ⟨x_28, ex_28⟩ : ∃ y : Int32, y = x_10 + Int32.ofInt (1) := ⟨_, rfl⟩
      have hx_28 : rg (1) (2520) x_28 := by rw [ex_28]; exact rg_mono (rg_add h_22 (rg_k (x := Int32.ofInt (1)) (c := 1) (by decide)) (by decide) (by decide)) (by decide) (by decide)
      have qx_28 : x_28.toInt = x_10.toInt + (1) := by rw [ex_28]; exact rg_addE h_22 (rg_k (x := Int32.ofInt (1)) (c := 1) (by decide)) (by decide) (by decide) (by decide)
      refine lv_iinc (v := x_28) (lv' := [(3, .int x_28), (0, .ref h0), (1, .int p0), (2, .int p1)]) hx hb dX0_hasApart_23 hl (k := 0) rfl (ex_28.symm) (by decide) rfl (fun ls hl => ?_)
      clear ex_28
      refine lv_goto (tgt := 2) hx hb dX0_hasApart_26 (by decide) ?_
      exact ih_20 (x_28) H locs ls ⟨hP.sub (ws' := [(h0, .inr (0, [.ref h1, .ref h2, .ref h3, .ref h4, .ref h5, .ref h6, .int a0, .int a1, .int a2, .int a3])), (h3, .inl (cI, 2520, .inl g2))]) [0, 1] rfl, hD.sub (ws' := [(h0, .inr (0, [.ref h1, .ref h2, .ref h3, .ref h4, .ref h5, .ref h6, .int a0, .int a1, .int a2, .int a3])), (h3, .inl (cI, 2520, .inl g2))]) [0, 1] (by decide) rfl, hS, lv_sub hl [0, 1, 2, 3] rfl, (rg_mono hx_28 (by decide) (by decide))⟩ (by show ((2520) - x_28.toInt).toNat < ((2520) - x_10.toInt).toNat; have ha := h_22; simp only [rg] at ha; omega)
    · skip
      have h_29 : rg (0) (0) x_26 := by have ha := (rg_any x_26); have hb_ := (rg_k (x := 0) (c := 0) (by decide)); simp only [rg, fa_lt, fa_le, fa_eq, (by decide : (0 : Int32).toInt = 0)] at ha hb_ c_27; simp only [rg]; omega
      refine lv_iconst (v := 1) hx hb dX0_hasApart_21 (by decide) ?_
      have hP9 := hP.sub (ws' := [(h0, .inr (0, [.ref h1, .ref h2, .ref h3, .ref h4, .ref h5, .ref h6, .int a0, .int a1, .int a2, .int a3])), (h3, .inl (cI, 2520, .inl g2))]) [0, 1] rfl
      have hD9 := hD.sub (ws' := [(h0, .inr (0, [.ref h1, .ref h2, .ref h3, .ref h4, .ref h5, .ref h6, .int a0, .int a1, .int a2, .int a3])), (h3, .inl (cI, 2520, .inl g2))]) [0, 1] (by decide) rfl
      exact W.zret (v := 1) hx hb hr (rfl) (fun t ht hW => ⟨⟨1, (), rfl, (rg_mono (rg_k (x := 1) (c := 1) (by decide)) (by decide) (by decide)), ⟨by rw [ht]; exact hP9, hD9⟩⟩, hS.F ht⟩) hS.2.2 dX0_hasApart_22
def v_s_X0_winsWith : List Cond := Cond.code yX0_winsWith cX0_winsWith 3 (some .boolean) :: ([Cond.methodLink RX0 126 yX0_keepApart, Cond.instanceMethod yX0_keepApart, Cond.selects RX0 yX0_keepApart yX0_keepApart, Cond.initialized RX0, Cond.fieldLink RX0 34 "MayRings$Families" "restCount" "I", Cond.fieldLink RX0 18 "MayRings$Families" "rest" "[I", Cond.methodLink RX0 133 yX0_hasApart, Cond.instanceMethod yX0_hasApart, Cond.selects RX0 yX0_hasApart yX0_hasApart] ++ (wsX00 ++ (v_s_X0_keepApart ++ (v_s_X0_hasApart ++ ([])))))
theorem k_s_X0_winsWith : GoodIn lw_tbl v_s_X0_winsWith := gd_c (List.mem_of_getElem? (i := 1103) (by decide +kernel)) rfl (goodIn_app (gd_c (List.mem_of_getElem? (i := 1075) (by decide +kernel)) rfl (gd_c (List.mem_of_getElem? (i := 1077) (by decide +kernel)) rfl (gd_c (List.mem_of_getElem? (i := 61) (by decide +kernel)) rfl (gd_c (List.mem_of_getElem? (i := 143) (by decide +kernel)) rfl (gd_c (List.mem_of_getElem? (i := 507) (by decide +kernel)) rfl (gd_c (List.mem_of_getElem? (i := 502) (by decide +kernel)) rfl (gd_c (List.mem_of_getElem? (i := 1083) (by decide +kernel)) rfl (gd_c (List.mem_of_getElem? (i := 1085) (by decide +kernel)) rfl (gd_c (List.mem_of_getElem? (i := 63) (by decide +kernel)) rfl (gd_nil)))))))))) (goodIn_app kfX0 (goodIn_app k_s_X0_keepApart (goodIn_app k_s_X0_hasApart (gd_nil)))))
set_option maxHeartbeats 2000000 in
set_option maxRecDepth 100000 in
theorem c_s_X0_winsWith (l : Launch) (dC : Nat → ClassId) (dI : Nat → Nat → Nat) (cB cI cJ cZ cP : ClassId) (h0 : Nat) (h1 : Nat) (g0 : Nat → Int32) (h2 : Nat) (h3 : Nat) (g2 : Nat → Int32) (h4 : Nat) (h5 : Nat) (h6 : Nat) (a0 : Int32) (ha0 : rg (0) (2520) a0) (a1 : Int32) (a2 : Int32) (a3 : Int32) (p0 : Int32) (hp0 : rg (0) (2519) p0) (sz : Nat) : Met l yX0_winsWith v_s_X0_winsWith ({ frames := 1, cells := 0, slots := 0, locals := 24 }) (va_Pc [.ref h0, .int p0] (fun U => U.heap.size = sz ∧ va_P (dC, dI) vwCl [(h0, .inr (0, [.ref h1, .ref h2, .ref h3, .ref h4, .ref h5, .ref h6, .int a0, .int a1, .int a2, .int a3])), (h1, .inl (cI, 2520, .inl g0)), (h3, .inl (cI, 2520, .inl g2))] U.heap ∧ va_K (dC, dI) vwCl (ty5 cB cI cJ cZ cP) U ∧ va_D (fun _ => True) [(h0, .inr (0, [.ref h1, .ref h2, .ref h3, .ref h4, .ref h5, .ref h6, .int a0, .int a1, .int a2, .int a3])), (h1, .inl (cI, 2520, .inl g0)), (h3, .inl (cI, 2520, .inl g2))])) (va_Qi (fun (r : Int32) (u9 : Unit) => rg (0) (1) r) (fun u9 t => ∃ (z0 : Int32) (z1 : Nat → Int32), rg (0) (2520) z0 ∧ va_P (dC, dI) vwCl [(h0, .inr (0, [.ref h1, .ref h2, .ref h3, .ref h4, .ref h5, .ref h6, .int a0, .int z0, .int a2, .int a3])), (h1, .inl (cI, 2520, .inl g0)), (h3, .inl (cI, 2520, .inl z1))] t.heap ∧ va_D (va_A [(h0, .inr (0, [.ref h1, .ref h2, .ref h3, .ref h4, .ref h5, .ref h6, .int a0, .int a1, .int a2, .int a3])), (h1, .inl (cI, 2520, .inl g0)), (h3, .inl (cI, 2520, .inl g2))] sz) [(h0, .inr (0, [.ref h1, .ref h2, .ref h3, .ref h4, .ref h5, .ref h6, .int a0, .int z0, .int a2, .int a3])), (h1, .inl (cI, 2520, .inl g0)), (h3, .inl (cI, 2520, .inl z1))]) (va_A [(h0, .inr (0, [.ref h1, .ref h2, .ref h3, .ref h4, .ref h5, .ref h6, .int a0, .int a1, .int a2, .int a3])), (h1, .inl (cI, 2520, .inl g0)), (h3, .inl (cI, 2520, .inl g2))] sz)) 0 0 (va_A [(h0, .inr (0, [.ref h1, .ref h2, .ref h3, .ref h4, .ref h5, .ref h6, .int a0, .int a1, .int a2, .int a3])), (h1, .inl (cI, 2520, .inl g0)), (h3, .inl (cI, 2520, .inl g2))] sz) := by
  refine Met.ofW (cc := cX0_winsWith) (maxL := 3) (ret := (some .boolean)) (by decide) rfl ?_
  intro p e s m args below meth c s₁ B hml hv
  obtain ⟨rfl, hsz, hP, hK, hD0⟩ := hv
  have hx := B.exec
  have hb := B.bytes
  have hr := B.returns
  have hts := atoms_spec (ws := v_s_X0_winsWith) B.pre
  have hown : s.vm.findClass RX0 = some m.cls := findClass_of_methodNamed B.named
  have hlocks := B.notSynchronized
  have hinX0 : ∀ w ∈ wsX00, w ∈ v_s_X0_winsWith := fun _ h => List.mem_cons_of_mem _ (List.mem_append_right _ (List.mem_append_left _ h))
  subst hsz
  have hD := hD0.self (sz := s.heap.size)
  generalize hAe : va_A [(h0, .inr (0, [.ref h1, .ref h2, .ref h3, .ref h4, .ref h5, .ref h6, .int a0, .int a1, .int a2, .int a3])), (h1, .inl (cI, 2520, .inl g0)), (h3, .inl (cI, 2520, .inl g2))] s.heap.size = A at hD ⊢
  have hA : ∀ q : Nat, s.heap.size ≤ q → A q := fun q h => by rw [← hAe]; exact Or.inr h
  have hP : va_P (dC, dI) vwCl [(h0, .inr (0, [.ref h1, .ref h2, .ref h3, .ref h4, .ref h5, .ref h6, .int a0, .int a1, .int a2, .int a3])), (h1, .inl (cI, 2520, .inl g0)), (h3, .inl (cI, 2520, .inl g2))] s.heap := hP
  have hl := lv_entry ([.ref h0, .int p0]) (n := 3) (Nat.le_of_ble_eq_true rfl)
  rw [lg_entry_eq]
  generalize (lg_sl ([.ref h0, .int p0]) ++ List.replicate (3 - (lg_sl ([.ref h0, .int p0])).length) Slot.unset).toArray = ls at hl ⊢
  have hl : lv_has ls 3 [(0, .ref h0), (1, .int p0)] := hl
  refine W_gen (A := A) hP (fun H locs hP hS => ?_)
  refine lv_aload_n hx hb dX0_winsWith_0 rfl (lv_at hl 0 rfl) ?_
  refine lv_iload_n hx hb dX0_winsWith_1 rfl (lv_at hl 1 rfl) ?_
  refine lv_iconst (v := 0) hx hb dX0_winsWith_2 (by decide) ?_
  have hPc := hP.sub (ws' := [(h0, .inr (0, [.ref h1, .ref h2, .ref h3, .ref h4, .ref h5, .ref h6, .int a0, .int a1, .int a2, .int a3])), (h1, .inl (cI, 2520, .inl g0)), (h3, .inl (cI, 2520, .inl g2))]) [0, 1, 2] rfl
  have hDc := hD.sub (ws' := [(h0, .inr (0, [.ref h1, .ref h2, .ref h3, .ref h4, .ref h5, .ref h6, .int a0, .int a1, .int a2, .int a3])), (h1, .inl (cI, 2520, .inl g0)), (h3, .inl (cI, 2520, .inl g2))]) [0, 1, 2] (by decide) rfl
  have hFc := va_free (wc := [(h0, .inr (0, [.ref h1, .ref h2, .ref h3, .ref h4, .ref h5, .ref h6, .int a0, .int a1, .int a2, .int a3])), (h1, .inl (cI, 2520, .inl g0)), (h3, .inl (cI, 2520, .inl g2))]) hD hS hA [0, 1, 2] rfl
  refine va_callv (va_runV (As := [.int p0, .int 0]) (rest := []) ⟨hx, hb, hml, hown, hts⟩ (c_s_X0_keepApart l dC dI cB cI cJ cZ cP h0 h1 g0 h2 h3 g2 h4 h5 h6 a0 (rg_mono ha0 (by decide) (by decide)) a1 a2 a3 p0 (rg_mono hp0 (by decide) (by decide)) 0 (rg_mono (rg_k (x := 0) (c := 0) (by decide)) (by decide) (by decide)) H.size) (cwV 2 hts (gd_V (List.mem_of_getElem? (i := 1) rfl) (List.mem_of_getElem? (i := 2) rfl) (List.mem_of_getElem? (i := 3) rfl) (List.mem_of_getElem? (i := 4) rfl) (gd_mono k_s_X0_keepApart (fun _ h => List.mem_cons_of_mem _ (List.mem_append_right _ (List.mem_append_right _ (List.mem_append_left _ h)))))) rfl rfl rfl (by decide +kernel) ⟨Nat.le_of_ble_eq_true rfl, Nat.le_of_ble_eq_true rfl⟩) ⟨fun a U g mk q => by obtain ⟨q0, q1, qP, qK, qD⟩ := q; exact ⟨q0, q1, qP, va_K.moved (u := U) (U := U.calling g mk a) (Vm.Alike.refl U.vm) qK, qD⟩, va_recv hK hPc (ci := 0) (q0 := 0) rfl rfl, fun U hU hW => ⟨rfl, by rw [hU], by rw [hU]; exact hPc, va_K.moved hW.alike hK, hDc.weaken (fun _ _ _ _ => trivial)⟩⟩ rfl rfl hl.1 rfl (lv_room (Nat.le_of_ble_eq_true rfl)) dX0_winsWith_3 ⟨Nat.le_of_ble_eq_true rfl, Nat.le_of_ble_eq_true rfl⟩) hS (fun q _ h => hFc q h) hFc (fun u t H1 locs ht hvm hw hB hz1 hk1 hS => ?_)
  obtain ⟨x_2, f_3, hx_2, hP1, hD1⟩ := hB
  rw [ht] at hP1
  obtain ⟨hP, hD⟩ := va_join (wr := []) (w1 := [(h0, .inr (0, [.ref h1, .ref h2, .ref h3, .ref h4, .ref h5, .ref h6, .int a0, .int x_2, .int a2, .int a3])), (h1, .inl (cI, 2520, .inl g0)), (h3, .inl (cI, 2520, .inl f_3))]) hP hD [0, 1, 2] [] rfl rfl (by decide) (by decide) hk1 hFc hP1 hD1
  generalize H1 = H at hP hS ⊢
  replace hP : va_P (dC, dI) vwCl [(h0, .inr (0, [.ref h1, .ref h2, .ref h3, .ref h4, .ref h5, .ref h6, .int a0, .int x_2, .int a2, .int a3])), (h1, .inl (cI, 2520, .inl g0)), (h3, .inl (cI, 2520, .inl f_3))] H := hP
  replace hD : va_D A [(h0, .inr (0, [.ref h1, .ref h2, .ref h3, .ref h4, .ref h5, .ref h6, .int a0, .int x_2, .int a2, .int a3])), (h1, .inl (cI, 2520, .inl g0)), (h3, .inl (cI, 2520, .inl f_3))] := hD
  refine lv_iconst (v := 0) hx hb dX0_winsWith_6 (by decide) ?_
  refine lv_istore_n (lv' := [(2, .int 0), (0, .ref h0), (1, .int p0)]) hx hb dX0_winsWith_7 rfl hl (by decide) rfl (fun ls hl => ?_)
  refine W_loopM (σ := Int32) (fun u H locs ls => va_P (dC, dI) vwCl [(h0, .inr (0, [.ref h1, .ref h2, .ref h3, .ref h4, .ref h5, .ref h6, .int a0, .int x_2, .int a2, .int a3])), (h1, .inl (cI, 2520, .inl g0)), (h3, .inl (cI, 2520, .inl f_3))] H ∧ va_D A [(h0, .inr (0, [.ref h1, .ref h2, .ref h3, .ref h4, .ref h5, .ref h6, .int a0, .int x_2, .int a2, .int a3])), (h1, .inl (cI, 2520, .inl g0)), (h3, .inl (cI, 2520, .inl f_3))] ∧ va_S A s.heap H locs ∧ lv_has ls 3 [(2, .int u), (0, .ref h0), (1, .int p0)] ∧ rg (0) (2520) u) (fun u => ((2520) - u.toInt).toNat) 8 [] ?_ (0) H locs ls ⟨hP, hD, hS, hl, (rg_mono (rg_k (x := 0) (c := 0) (by decide)) (by decide) (by decide))⟩
  rintro x_412 H locs ls ⟨hP, hD, hS, hl, hx_412⟩ ih_423
  replace hP : va_P (dC, dI) vwCl [(h0, .inr (0, [.ref h1, .ref h2, .ref h3, .ref h4, .ref h5, .ref h6, .int a0, .int x_2, .int a2, .int a3])), (h1, .inl (cI, 2520, .inl g0)), (h3, .inl (cI, 2520, .inl f_3))] H := hP
  replace hD : va_D A [(h0, .inr (0, [.ref h1, .ref h2, .ref h3, .ref h4, .ref h5, .ref h6, .int a0, .int x_2, .int a2, .int a3])), (h1, .inl (cI, 2520, .inl g0)), (h3, .inl (cI, 2520, .inl f_3))] := hD
  replace hl : lv_has ls 3 [(2, .int x_412), (0, .ref h0), (1, .int p0)] := hl
  replace hx_412 : rg (0) (2520) x_412 := hx_412
  refine lv_iload_n hx hb dX0_winsWith_8 rfl (lv_at hl 0 rfl) ?_
  refine lv_aload_n hx hb dX0_winsWith_9 rfl (lv_at hl 1 rfl) ?_
  refine va_get (D := (dC, dI)) (ci := 0) (v := .int x_2) (C := RX0) (T := TX0) (N := 10) hx hb hts hinX0 hown hK hP 0 rfl rfl 7 (by decide) (hts (.fieldLink RX0 34 "MayRings$Families" "restCount" "I") (List.mem_of_getElem? (i := 5) rfl)) (fun _ h9 => h9) rfl dX0_winsWith_10 ?_
  refine lv_icmp_ge (tgt := 38) hx hb dX0_winsWith_13 (by decide) (fun c_424 => ?_) (fun c_424 => ?_)
  · skip
    refine lv_iconst (v := 1) hx hb dX0_winsWith_38 (by decide) ?_
    have hP9 := hP.sub (ws' := [(h0, .inr (0, [.ref h1, .ref h2, .ref h3, .ref h4, .ref h5, .ref h6, .int a0, .int x_2, .int a2, .int a3])), (h1, .inl (cI, 2520, .inl g0)), (h3, .inl (cI, 2520, .inl f_3))]) [0, 1, 2] rfl
    have hD9 := hD.sub (ws' := [(h0, .inr (0, [.ref h1, .ref h2, .ref h3, .ref h4, .ref h5, .ref h6, .int a0, .int x_2, .int a2, .int a3])), (h1, .inl (cI, 2520, .inl g0)), (h3, .inl (cI, 2520, .inl f_3))]) [0, 1, 2] (by decide) rfl
    exact W.zret (v := 1) hx hb hr (rfl) (fun t ht hW => ⟨⟨1, (), rfl, (rg_mono (rg_k (x := 1) (c := 1) (by decide)) (by decide) (by decide)), ⟨x_2, f_3, (rg_mono hx_2 (by decide) (by decide)), by rw [ht]; exact hP9, hD9⟩⟩, hS.F ht⟩) hS.2.2 dX0_winsWith_39
  · skip
    have h_425 : rg (0) (2519) x_412 := by have ha := hx_412; have hb_ := hx_2; simp only [rg, fa_lt, fa_le, fa_eq] at ha hb_ c_424; simp only [rg]; omega
    have h_426 : rg (1) (2520) x_2 := by have ha := h_425; have hb_ := hx_2; have hc_ := c_424; simp only [rg, fa_lt, fa_le, fa_eq] at ha hb_ hc_; simp only [rg]; omega
    have h_427 : rg (1) (2520) x_2 := by have ha := hx_412; have hb_ := hx_2; simp only [rg, fa_lt, fa_le, fa_eq] at ha hb_ c_424; simp only [rg]; omega
    refine lv_aload_n hx hb dX0_winsWith_16 rfl (lv_at hl 1 rfl) ?_
    refine lv_aload_n hx hb dX0_winsWith_17 rfl (lv_at hl 1 rfl) ?_
    refine va_get (D := (dC, dI)) (ci := 0) (v := .ref h3) (C := RX0) (T := TX0) (N := 10) hx hb hts hinX0 hown hK hP 0 rfl rfl 2 (by decide) (hts (.fieldLink RX0 18 "MayRings$Families" "rest" "[I") (List.mem_of_getElem? (i := 6) rfl)) (fun _ h9 => h9) rfl dX0_winsWith_18 ?_
    refine lv_iload_n hx hb dX0_winsWith_21 rfl (lv_at hl 0 rfl) ?_
    refine va_iald hx hb hK hP 2 1 rfl rfl (rg_in (n := 2520) (rg_mono h_425 (by decide) (by decide))) dX0_winsWith_22 ?_
    refine lv_topi (fun x_428 ex_428 => ?_)
    refine lv_iconst (v := 0) hx hb dX0_winsWith_23 (by decide) ?_
    have hPc := hP.sub (ws' := [(h0, .inr (0, [.ref h1, .ref h2, .ref h3, .ref h4, .ref h5, .ref h6, .int a0, .int x_2, .int a2, .int a3])), (h3, .inl (cI, 2520, .inl f_3))]) [0, 2] rfl
    have hDc := hD.sub (ws' := [(h0, .inr (0, [.ref h1, .ref h2, .ref h3, .ref h4, .ref h5, .ref h6, .int a0, .int x_2, .int a2, .int a3])), (h3, .inl (cI, 2520, .inl f_3))]) [0, 2] (by decide) rfl
    have hFc := va_free (wc := [(h0, .inr (0, [.ref h1, .ref h2, .ref h3, .ref h4, .ref h5, .ref h6, .int a0, .int x_2, .int a2, .int a3])), (h3, .inl (cI, 2520, .inl f_3))]) hD hS hA [0, 2] rfl
    refine va_calli (va_runV (As := [.int x_428, .int 0]) (rest := []) ⟨hx, hb, hml, hown, hts⟩ (c_s_X0_hasApart l dC dI cB cI cJ cZ cP h0 h1 h2 h3 f_3 h4 h5 h6 a0 x_2 (rg_mono h_427 (by decide) (by decide)) a2 a3 x_428 0 (rg_mono (rg_k (x := 0) (c := 0) (by decide)) (by decide) (by decide)) H.size) (cwV 2 hts (gd_V (List.mem_of_getElem? (i := 7) rfl) (List.mem_of_getElem? (i := 8) rfl) (List.mem_of_getElem? (i := 9) rfl) (List.mem_of_getElem? (i := 4) rfl) (gd_mono k_s_X0_hasApart (fun _ h => List.mem_cons_of_mem _ (List.mem_append_right _ (List.mem_append_right _ (List.mem_append_right _ (List.mem_append_left _ h))))))) rfl rfl rfl (by decide +kernel) ⟨Nat.le_of_ble_eq_true rfl, Nat.le_of_ble_eq_true rfl⟩) ⟨fun a U g mk q => by obtain ⟨q0, q1, qP, qK, qD⟩ := q; exact ⟨q0, q1, qP, va_K.moved (u := U) (U := U.calling g mk a) (Vm.Alike.refl U.vm) qK, qD⟩, va_recv hK hPc (ci := 0) (q0 := 0) rfl rfl, fun U hU hW => ⟨rfl, by rw [hU], by rw [hU]; exact hPc, va_K.moved hW.alike hK, hDc.weaken (fun _ _ _ _ => trivial)⟩⟩ rfl rfl hl.1 rfl (lv_room (Nat.le_of_ble_eq_true rfl)) dX0_winsWith_24 ⟨Nat.le_of_ble_eq_true rfl, Nat.le_of_ble_eq_true rfl⟩) hS (fun q _ h => hFc q h) hFc (fun r_429 u t H1 locs ht hvm hw hB hz1 hk1 hS => ?_)
    obtain ⟨hP1, hD1⟩ := hB
    rw [ht] at hP1
    obtain ⟨hP, hD⟩ := va_join (wr := [(h1, .inl (cI, 2520, .inl g0))]) (w1 := [(h0, .inr (0, [.ref h1, .ref h2, .ref h3, .ref h4, .ref h5, .ref h6, .int a0, .int x_2, .int a2, .int a3])), (h3, .inl (cI, 2520, .inl f_3))]) hP hD [0, 2] [1] rfl rfl (by decide) (by decide) hk1 hFc hP1 hD1
    generalize H1 = H at hP hS ⊢
    replace hP : va_P (dC, dI) vwCl [(h1, .inl (cI, 2520, .inl g0)), (h0, .inr (0, [.ref h1, .ref h2, .ref h3, .ref h4, .ref h5, .ref h6, .int a0, .int x_2, .int a2, .int a3])), (h3, .inl (cI, 2520, .inl f_3))] H := hP
    replace hD : va_D A [(h1, .inl (cI, 2520, .inl g0)), (h0, .inr (0, [.ref h1, .ref h2, .ref h3, .ref h4, .ref h5, .ref h6, .int a0, .int x_2, .int a2, .int a3])), (h3, .inl (cI, 2520, .inl f_3))] := hD
    have hr_429 : rg (0) (1) r_429 := hw
    refine lv_if_ne (tgt := 32) hx hb dX0_winsWith_27 (by decide) (fun c_430 => ?_) (fun c_430 => ?_)
    · skip
      have h_431 : rg (1) (1) r_429 := by have ha := hr_429; have hb_ := (rg_k (x := 0) (c := 0) (by decide)); simp only [rg, fa_lt, fa_le, fa_eq, (by decide : (0 : Int32).toInt = 0)] at ha hb_ c_430; simp only [rg]; omega
      obtain ⟨x_432, ex_432⟩ : ∃ y : Int32, y = x_412 + Int32.ofInt (1) := ⟨_, rfl⟩
      have hx_432 : rg (1) (2520) x_432 := by rw [ex_432]; exact rg_mono (rg_add h_425 (rg_k (x := Int32.ofInt (1)) (c := 1) (by decide)) (by decide) (by decide)) (by decide) (by decide)
      have qx_432 : x_432.toInt = x_412.toInt + (1) := by rw [ex_432]; exact rg_addE h_425 (rg_k (x := Int32.ofInt (1)) (c := 1) (by decide)) (by decide) (by decide) (by decide)
      refine lv_iinc (v := x_432) (lv' := [(2, .int x_432), (0, .ref h0), (1, .int p0)]) hx hb dX0_winsWith_32 hl (k := 0) rfl (ex_432.symm) (by decide) rfl (fun ls hl => ?_)
      clear ex_432
      refine lv_goto (tgt := 8) hx hb dX0_winsWith_35 (by decide) ?_
      exact ih_423 (x_432) H locs ls ⟨hP.sub (ws' := [(h0, .inr (0, [.ref h1, .ref h2, .ref h3, .ref h4, .ref h5, .ref h6, .int a0, .int x_2, .int a2, .int a3])), (h1, .inl (cI, 2520, .inl g0)), (h3, .inl (cI, 2520, .inl f_3))]) [1, 0, 2] rfl, hD.sub (ws' := [(h0, .inr (0, [.ref h1, .ref h2, .ref h3, .ref h4, .ref h5, .ref h6, .int a0, .int x_2, .int a2, .int a3])), (h1, .inl (cI, 2520, .inl g0)), (h3, .inl (cI, 2520, .inl f_3))]) [1, 0, 2] (by decide) rfl, hS, lv_sub hl [0, 1, 2] rfl, (rg_mono hx_432 (by decide) (by decide))⟩ (by show ((2520) - x_432.toInt).toNat < ((2520) - x_412.toInt).toNat; have ha := h_425; simp only [rg] at ha; omega)
    · skip
      have h_433 : rg (0) (0) r_429 := by have ha := hr_429; have hb_ := (rg_k (x := 0) (c := 0) (by decide)); simp only [rg, fa_lt, fa_le, fa_eq, (by decide : (0 : Int32).toInt = 0)] at ha hb_ c_430; simp only [rg]; omega
      refine lv_iconst (v := 0) hx hb dX0_winsWith_30 (by decide) ?_
      have hP9 := hP.sub (ws' := [(h0, .inr (0, [.ref h1, .ref h2, .ref h3, .ref h4, .ref h5, .ref h6, .int a0, .int x_2, .int a2, .int a3])), (h1, .inl (cI, 2520, .inl g0)), (h3, .inl (cI, 2520, .inl f_3))]) [1, 0, 2] rfl
      have hD9 := hD.sub (ws' := [(h0, .inr (0, [.ref h1, .ref h2, .ref h3, .ref h4, .ref h5, .ref h6, .int a0, .int x_2, .int a2, .int a3])), (h1, .inl (cI, 2520, .inl g0)), (h3, .inl (cI, 2520, .inl f_3))]) [1, 0, 2] (by decide) rfl
      exact W.zret (v := 0) hx hb hr (rfl) (fun t ht hW => ⟨⟨0, (), rfl, (rg_mono (rg_k (x := 0) (c := 0) (by decide)) (by decide) (by decide)), ⟨x_2, f_3, (rg_mono h_427 (by decide) (by decide)), by rw [ht]; exact hP9, hD9⟩⟩, hS.F ht⟩) hS.2.2 dX0_winsWith_31
def v_s_X0_beginnerWins : List Cond := Cond.code yX0_beginnerWins cX0_beginnerWins 2 (some .boolean) :: ([Cond.fieldLink RX0 37 "MayRings$Families" "size" "I", Cond.fieldLink RX0 30 "MayRings$Families" "count" "I", Cond.fieldLink RX0 15 "MayRings$Families" "orders" "[I", Cond.methodLink RX0 118 yX0_mayLead, Cond.instanceMethod yX0_mayLead, Cond.selects RX0 yX0_mayLead yX0_mayLead, Cond.initialized RX0, Cond.methodLink RX0 136 yX0_winsWith, Cond.instanceMethod yX0_winsWith, Cond.selects RX0 yX0_winsWith yX0_winsWith] ++ (wsX00 ++ (v_s_X0_mayLead ++ (v_s_X0_winsWith ++ ([])))))
theorem k_s_X0_beginnerWins : GoodIn lw_tbl v_s_X0_beginnerWins := gd_c (List.mem_of_getElem? (i := 1099) (by decide +kernel)) rfl (goodIn_app (gd_c (List.mem_of_getElem? (i := 508) (by decide +kernel)) rfl (gd_c (List.mem_of_getElem? (i := 506) (by decide +kernel)) rfl (gd_c (List.mem_of_getElem? (i := 501) (by decide +kernel)) rfl (gd_c (List.mem_of_getElem? (i := 1067) (by decide +kernel)) rfl (gd_c (List.mem_of_getElem? (i := 1069) (by decide +kernel)) rfl (gd_c (List.mem_of_getElem? (i := 59) (by decide +kernel)) rfl (gd_c (List.mem_of_getElem? (i := 143) (by decide +kernel)) rfl (gd_c (List.mem_of_getElem? (i := 1100) (by decide +kernel)) rfl (gd_c (List.mem_of_getElem? (i := 1102) (by decide +kernel)) rfl (gd_c (List.mem_of_getElem? (i := 65) (by decide +kernel)) rfl (gd_nil))))))))))) (goodIn_app kfX0 (goodIn_app k_s_X0_mayLead (goodIn_app k_s_X0_winsWith (gd_nil)))))
set_option maxHeartbeats 2000000 in
set_option maxRecDepth 100000 in
theorem c_s_X0_beginnerWins (l : Launch) (dC : Nat → ClassId) (dI : Nat → Nat → Nat) (cB cI cJ cZ cP : ClassId) (h0 : Nat) (h1 : Nat) (g0 : Nat → Int32) (h2 : Nat) (g1 : Nat → Int32) (h3 : Nat) (g2 : Nat → Int32) (h4 : Nat) (h5 : Nat) (h6 : Nat) (g5 : Nat → Int32) (a0 : Int32) (ha0 : rg (0) (2520) a0) (a1 : Int32) (ha1 : rg (0) (2520) a1) (a2 : Int32) (ha2 : rg (0) (9) a2) (a3 : Int32) (sz : Nat) : Met l yX0_beginnerWins v_s_X0_beginnerWins ({ frames := 2, cells := 0, slots := 0, locals := 46 }) (va_Pc [.ref h0] (fun U => U.heap.size = sz ∧ va_P (dC, dI) vwCl [(h0, .inr (0, [.ref h1, .ref h2, .ref h3, .ref h4, .ref h5, .ref h6, .int a0, .int a1, .int a2, .int a3])), (h1, .inl (cI, 2520, .inl g0)), (h2, .inl (cI, 2520, .inl g1)), (h3, .inl (cI, 2520, .inl g2)), (h6, .inl (cI, 9, .inl g5))] U.heap ∧ va_K (dC, dI) vwCl (ty5 cB cI cJ cZ cP) U ∧ va_D (fun _ => True) [(h0, .inr (0, [.ref h1, .ref h2, .ref h3, .ref h4, .ref h5, .ref h6, .int a0, .int a1, .int a2, .int a3])), (h1, .inl (cI, 2520, .inl g0)), (h2, .inl (cI, 2520, .inl g1)), (h3, .inl (cI, 2520, .inl g2)), (h6, .inl (cI, 9, .inl g5))])) (va_Qi (fun (r : Int32) (u9 : Unit) => rg (0) (1) r) (fun u9 t => ∃ (z0 : Int32) (z1 : Nat → Int32), rg (0) (2520) z0 ∧ va_P (dC, dI) vwCl [(h0, .inr (0, [.ref h1, .ref h2, .ref h3, .ref h4, .ref h5, .ref h6, .int a0, .int z0, .int a2, .int a3])), (h1, .inl (cI, 2520, .inl g0)), (h2, .inl (cI, 2520, .inl g1)), (h3, .inl (cI, 2520, .inl z1)), (h6, .inl (cI, 9, .inl g5))] t.heap ∧ va_D (va_A [(h0, .inr (0, [.ref h1, .ref h2, .ref h3, .ref h4, .ref h5, .ref h6, .int a0, .int a1, .int a2, .int a3])), (h1, .inl (cI, 2520, .inl g0)), (h2, .inl (cI, 2520, .inl g1)), (h3, .inl (cI, 2520, .inl g2)), (h6, .inl (cI, 9, .inl g5))] sz) [(h0, .inr (0, [.ref h1, .ref h2, .ref h3, .ref h4, .ref h5, .ref h6, .int a0, .int z0, .int a2, .int a3])), (h1, .inl (cI, 2520, .inl g0)), (h2, .inl (cI, 2520, .inl g1)), (h3, .inl (cI, 2520, .inl z1)), (h6, .inl (cI, 9, .inl g5))]) (va_A [(h0, .inr (0, [.ref h1, .ref h2, .ref h3, .ref h4, .ref h5, .ref h6, .int a0, .int a1, .int a2, .int a3])), (h1, .inl (cI, 2520, .inl g0)), (h2, .inl (cI, 2520, .inl g1)), (h3, .inl (cI, 2520, .inl g2)), (h6, .inl (cI, 9, .inl g5))] sz)) 0 0 (va_A [(h0, .inr (0, [.ref h1, .ref h2, .ref h3, .ref h4, .ref h5, .ref h6, .int a0, .int a1, .int a2, .int a3])), (h1, .inl (cI, 2520, .inl g0)), (h2, .inl (cI, 2520, .inl g1)), (h3, .inl (cI, 2520, .inl g2)), (h6, .inl (cI, 9, .inl g5))] sz) := by
  refine Met.ofW (cc := cX0_beginnerWins) (maxL := 2) (ret := (some .boolean)) (by decide) rfl ?_
  intro p e s m args below meth c s₁ B hml hv
  obtain ⟨rfl, hsz, hP, hK, hD0⟩ := hv
  have hx := B.exec
  have hb := B.bytes
  have hr := B.returns
  have hts := atoms_spec (ws := v_s_X0_beginnerWins) B.pre
  have hown : s.vm.findClass RX0 = some m.cls := findClass_of_methodNamed B.named
  have hlocks := B.notSynchronized
  have hinX0 : ∀ w ∈ wsX00, w ∈ v_s_X0_beginnerWins := fun _ h => List.mem_cons_of_mem _ (List.mem_append_right _ (List.mem_append_left _ h))
  subst hsz
  have hD := hD0.self (sz := s.heap.size)
  generalize hAe : va_A [(h0, .inr (0, [.ref h1, .ref h2, .ref h3, .ref h4, .ref h5, .ref h6, .int a0, .int a1, .int a2, .int a3])), (h1, .inl (cI, 2520, .inl g0)), (h2, .inl (cI, 2520, .inl g1)), (h3, .inl (cI, 2520, .inl g2)), (h6, .inl (cI, 9, .inl g5))] s.heap.size = A at hD ⊢
  have hA : ∀ q : Nat, s.heap.size ≤ q → A q := fun q h => by rw [← hAe]; exact Or.inr h
  have hP : va_P (dC, dI) vwCl [(h0, .inr (0, [.ref h1, .ref h2, .ref h3, .ref h4, .ref h5, .ref h6, .int a0, .int a1, .int a2, .int a3])), (h1, .inl (cI, 2520, .inl g0)), (h2, .inl (cI, 2520, .inl g1)), (h3, .inl (cI, 2520, .inl g2)), (h6, .inl (cI, 9, .inl g5))] s.heap := hP
  have hl := lv_entry ([.ref h0]) (n := 2) (Nat.le_of_ble_eq_true rfl)
  rw [lg_entry_eq]
  generalize (lg_sl ([.ref h0]) ++ List.replicate (2 - (lg_sl ([.ref h0])).length) Slot.unset).toArray = ls at hl ⊢
  have hl : lv_has ls 2 [(0, .ref h0)] := hl
  refine W_gen (A := A) hP (fun H locs hP hS => ?_)
  refine lv_aload_n hx hb dX0_beginnerWins_0 rfl (lv_at hl 0 rfl) ?_
  refine va_get (D := (dC, dI)) (ci := 0) (v := .int a2) (C := RX0) (T := TX0) (N := 10) hx hb hts hinX0 hown hK hP 0 rfl rfl 8 (by decide) (hts (.fieldLink RX0 37 "MayRings$Families" "size" "I") (List.mem_of_getElem? (i := 1) rfl)) (fun _ h9 => h9) rfl dX0_beginnerWins_1 ?_
  refine lv_iconst (v := 2) hx hb dX0_beginnerWins_4 (by decide) ?_
  refine lv_icmp_ge (tgt := 21) hx hb dX0_beginnerWins_5 (by decide) (fun c_1 => ?_) (fun c_1 => ?_)
  · skip
    have h_2 : rg (2) (9) a2 := by have ha := ha2; have hb_ := (rg_k (x := 2) (c := 2) (by decide)); simp only [rg, fa_lt, fa_le, fa_eq, (by decide : (2 : Int32).toInt = 2)] at ha hb_ c_1; simp only [rg]; omega
    refine lv_iconst (v := 0) hx hb dX0_beginnerWins_21 (by decide) ?_
    refine lv_istore_n (lv' := [(1, .int 0), (0, .ref h0)]) hx hb dX0_beginnerWins_22 rfl hl (by decide) rfl (fun ls hl => ?_)
    refine W_loopM (σ := Int32 × (Nat → Int32) × Int32) (fun u H locs ls => va_P (dC, dI) vwCl [(h0, .inr (0, [.ref h1, .ref h2, .ref h3, .ref h4, .ref h5, .ref h6, .int a0, .int u.2.2, .int a2, .int a3])), (h1, .inl (cI, 2520, .inl g0)), (h2, .inl (cI, 2520, .inl g1)), (h3, .inl (cI, 2520, .inl u.2.1)), (h6, .inl (cI, 9, .inl g5))] H ∧ va_D A [(h0, .inr (0, [.ref h1, .ref h2, .ref h3, .ref h4, .ref h5, .ref h6, .int a0, .int u.2.2, .int a2, .int a3])), (h1, .inl (cI, 2520, .inl g0)), (h2, .inl (cI, 2520, .inl g1)), (h3, .inl (cI, 2520, .inl u.2.1)), (h6, .inl (cI, 9, .inl g5))] ∧ va_S A s.heap H locs ∧ lv_has ls 2 [(1, .int u.1), (0, .ref h0)] ∧ rg (0) (2520) u.1 ∧ rg (0) (2520) u.2.2) (fun u => ((2520) - u.1.toInt).toNat) 23 [] ?_ (0, g2, a1) H locs ls ⟨hP, hD, hS, hl, (rg_mono (rg_k (x := 0) (c := 0) (by decide)) (by decide) (by decide)), (rg_mono ha1 (by decide) (by decide))⟩
    rintro ⟨x_777, f_778, x_779⟩ H locs ls ⟨hP, hD, hS, hl, hx_777, hx_779⟩ ih_797
    replace hP : va_P (dC, dI) vwCl [(h0, .inr (0, [.ref h1, .ref h2, .ref h3, .ref h4, .ref h5, .ref h6, .int a0, .int x_779, .int a2, .int a3])), (h1, .inl (cI, 2520, .inl g0)), (h2, .inl (cI, 2520, .inl g1)), (h3, .inl (cI, 2520, .inl f_778)), (h6, .inl (cI, 9, .inl g5))] H := hP
    replace hD : va_D A [(h0, .inr (0, [.ref h1, .ref h2, .ref h3, .ref h4, .ref h5, .ref h6, .int a0, .int x_779, .int a2, .int a3])), (h1, .inl (cI, 2520, .inl g0)), (h2, .inl (cI, 2520, .inl g1)), (h3, .inl (cI, 2520, .inl f_778)), (h6, .inl (cI, 9, .inl g5))] := hD
    replace hl : lv_has ls 2 [(1, .int x_777), (0, .ref h0)] := hl
    replace hx_777 : rg (0) (2520) x_777 := hx_777
    replace hx_779 : rg (0) (2520) x_779 := hx_779
    refine lv_iload_n hx hb dX0_beginnerWins_23 rfl (lv_at hl 0 rfl) ?_
    refine lv_aload_n hx hb dX0_beginnerWins_24 rfl (lv_at hl 1 rfl) ?_
    refine va_get (D := (dC, dI)) (ci := 0) (v := .int a0) (C := RX0) (T := TX0) (N := 10) hx hb hts hinX0 hown hK hP 0 rfl rfl 6 (by decide) (hts (.fieldLink RX0 30 "MayRings$Families" "count" "I") (List.mem_of_getElem? (i := 2) rfl)) (fun _ h9 => h9) rfl dX0_beginnerWins_25 ?_
    refine lv_icmp_ge (tgt := 60) hx hb dX0_beginnerWins_28 (by decide) (fun c_798 => ?_) (fun c_798 => ?_)
    · skip
      refine lv_iconst (v := 0) hx hb dX0_beginnerWins_60 (by decide) ?_
      have hP9 := hP.sub (ws' := [(h0, .inr (0, [.ref h1, .ref h2, .ref h3, .ref h4, .ref h5, .ref h6, .int a0, .int x_779, .int a2, .int a3])), (h1, .inl (cI, 2520, .inl g0)), (h2, .inl (cI, 2520, .inl g1)), (h3, .inl (cI, 2520, .inl f_778)), (h6, .inl (cI, 9, .inl g5))]) [0, 1, 2, 3, 4] rfl
      have hD9 := hD.sub (ws' := [(h0, .inr (0, [.ref h1, .ref h2, .ref h3, .ref h4, .ref h5, .ref h6, .int a0, .int x_779, .int a2, .int a3])), (h1, .inl (cI, 2520, .inl g0)), (h2, .inl (cI, 2520, .inl g1)), (h3, .inl (cI, 2520, .inl f_778)), (h6, .inl (cI, 9, .inl g5))]) [0, 1, 2, 3, 4] (by decide) rfl
      exact W.zret (v := 0) hx hb hr (rfl) (fun t ht hW => ⟨⟨0, (), rfl, (rg_mono (rg_k (x := 0) (c := 0) (by decide)) (by decide) (by decide)), ⟨x_779, f_778, (rg_mono hx_779 (by decide) (by decide)), by rw [ht]; exact hP9, hD9⟩⟩, hS.F ht⟩) hS.2.2 dX0_beginnerWins_61
    · skip
      have h_799 : rg (0) (2519) x_777 := by have ha := hx_777; have hb_ := ha0; simp only [rg, fa_lt, fa_le, fa_eq] at ha hb_ c_798; simp only [rg]; omega
      have h_800 : rg (1) (2520) a0 := by have ha := h_799; have hb_ := ha0; have hc_ := c_798; simp only [rg, fa_lt, fa_le, fa_eq] at ha hb_ hc_; simp only [rg]; omega
      have h_801 : rg (1) (2520) a0 := by have ha := hx_777; have hb_ := ha0; simp only [rg, fa_lt, fa_le, fa_eq] at ha hb_ c_798; simp only [rg]; omega
      refine lv_aload_n hx hb dX0_beginnerWins_31 rfl (lv_at hl 1 rfl) ?_
      refine lv_aload_n hx hb dX0_beginnerWins_32 rfl (lv_at hl 1 rfl) ?_
      refine va_get (D := (dC, dI)) (ci := 0) (v := .ref h2) (C := RX0) (T := TX0) (N := 10) hx hb hts hinX0 hown hK hP 0 rfl rfl 1 (by decide) (hts (.fieldLink RX0 15 "MayRings$Families" "orders" "[I") (List.mem_of_getElem? (i := 3) rfl)) (fun _ h9 => h9) rfl dX0_beginnerWins_33 ?_
      refine lv_iload_n hx hb dX0_beginnerWins_36 rfl (lv_at hl 0 rfl) ?_
      refine va_iald hx hb hK hP 2 1 rfl rfl (rg_in (n := 2520) (rg_mono h_799 (by decide) (by decide))) dX0_beginnerWins_37 ?_
      refine lv_topi (fun x_802 ex_802 => ?_)
      have hPc := hP.sub (ws' := [(h0, .inr (0, [.ref h1, .ref h2, .ref h3, .ref h4, .ref h5, .ref h6, .int a0, .int x_779, .int a2, .int a3])), (h6, .inl (cI, 9, .inl g5))]) [0, 4] rfl
      have hDc := hD.sub (ws' := [(h0, .inr (0, [.ref h1, .ref h2, .ref h3, .ref h4, .ref h5, .ref h6, .int a0, .int x_779, .int a2, .int a3])), (h6, .inl (cI, 9, .inl g5))]) [0, 4] (by decide) rfl
      have hFc := va_free (wc := [(h0, .inr (0, [.ref h1, .ref h2, .ref h3, .ref h4, .ref h5, .ref h6, .int a0, .int x_779, .int a2, .int a3])), (h6, .inl (cI, 9, .inl g5))]) hD hS hA [0, 4] rfl
      refine va_calli (va_runV (As := [.int x_802]) (rest := []) ⟨hx, hb, hml, hown, hts⟩ (c_s_X0_mayLead l dC dI cB cI cJ cZ cP h0 h1 h2 h3 h4 h5 h6 g5 a0 x_779 a2 (rg_mono h_2 (by decide) (by decide)) a3 x_802 H.size) (cwV 1 hts (gd_V (List.mem_of_getElem? (i := 4) rfl) (List.mem_of_getElem? (i := 5) rfl) (List.mem_of_getElem? (i := 6) rfl) (List.mem_of_getElem? (i := 7) rfl) (gd_mono k_s_X0_mayLead (fun _ h => List.mem_cons_of_mem _ (List.mem_append_right _ (List.mem_append_right _ (List.mem_append_left _ h)))))) rfl rfl rfl (by decide +kernel) ⟨Nat.le_of_ble_eq_true rfl, Nat.le_of_ble_eq_true rfl⟩) ⟨fun a U g mk q => by obtain ⟨q0, q1, qP, qK, qD⟩ := q; exact ⟨q0, q1, qP, va_K.moved (u := U) (U := U.calling g mk a) (Vm.Alike.refl U.vm) qK, qD⟩, va_recv hK hPc (ci := 0) (q0 := 0) rfl rfl, fun U hU hW => ⟨rfl, by rw [hU], by rw [hU]; exact hPc, va_K.moved hW.alike hK, hDc.weaken (fun _ _ _ _ => trivial)⟩⟩ rfl rfl hl.1 rfl (lv_room (Nat.le_of_ble_eq_true rfl)) dX0_beginnerWins_38 ⟨Nat.le_of_ble_eq_true rfl, Nat.le_of_ble_eq_true rfl⟩) hS (fun q _ h => hFc q h) hFc (fun r_803 u t H1 locs ht hvm hw hB hz1 hk1 hS => ?_)
      obtain ⟨hP1, hD1⟩ := hB
      rw [ht] at hP1
      obtain ⟨hP, hD⟩ := va_join (wr := [(h1, .inl (cI, 2520, .inl g0)), (h2, .inl (cI, 2520, .inl g1)), (h3, .inl (cI, 2520, .inl f_778))]) (w1 := [(h0, .inr (0, [.ref h1, .ref h2, .ref h3, .ref h4, .ref h5, .ref h6, .int a0, .int x_779, .int a2, .int a3])), (h6, .inl (cI, 9, .inl g5))]) hP hD [0, 4] [1, 2, 3] rfl rfl (by decide) (by decide) hk1 hFc hP1 hD1
      generalize H1 = H at hP hS ⊢
      replace hP : va_P (dC, dI) vwCl [(h1, .inl (cI, 2520, .inl g0)), (h2, .inl (cI, 2520, .inl g1)), (h3, .inl (cI, 2520, .inl f_778)), (h0, .inr (0, [.ref h1, .ref h2, .ref h3, .ref h4, .ref h5, .ref h6, .int a0, .int x_779, .int a2, .int a3])), (h6, .inl (cI, 9, .inl g5))] H := hP
      replace hD : va_D A [(h1, .inl (cI, 2520, .inl g0)), (h2, .inl (cI, 2520, .inl g1)), (h3, .inl (cI, 2520, .inl f_778)), (h0, .inr (0, [.ref h1, .ref h2, .ref h3, .ref h4, .ref h5, .ref h6, .int a0, .int x_779, .int a2, .int a3])), (h6, .inl (cI, 9, .inl g5))] := hD
      have hr_803 : rg (0) (1) r_803 := hw
      refine lv_if_eq (tgt := 54) hx hb dX0_beginnerWins_41 (by decide) (fun c_804 => ?_) (fun c_804 => ?_)
      · skip
        have h_805 : rg (0) (0) r_803 := by have ha := hr_803; have hb_ := (rg_k (x := 0) (c := 0) (by decide)); simp only [rg, fa_lt, fa_le, fa_eq, (by decide : (0 : Int32).toInt = 0)] at ha hb_ c_804; simp only [rg]; omega
        obtain ⟨x_806, ex_806⟩ : ∃ y : Int32, y = x_777 + Int32.ofInt (1) := ⟨_, rfl⟩
        have hx_806 : rg (1) (2520) x_806 := by rw [ex_806]; exact rg_mono (rg_add h_799 (rg_k (x := Int32.ofInt (1)) (c := 1) (by decide)) (by decide) (by decide)) (by decide) (by decide)
        have qx_806 : x_806.toInt = x_777.toInt + (1) := by rw [ex_806]; exact rg_addE h_799 (rg_k (x := Int32.ofInt (1)) (c := 1) (by decide)) (by decide) (by decide) (by decide)
        refine lv_iinc (v := x_806) (lv' := [(1, .int x_806), (0, .ref h0)]) hx hb dX0_beginnerWins_54 hl (k := 0) rfl (ex_806.symm) (by decide) rfl (fun ls hl => ?_)
        clear ex_806
        refine lv_goto (tgt := 23) hx hb dX0_beginnerWins_57 (by decide) ?_
        exact ih_797 (x_806, f_778, x_779) H locs ls ⟨hP.sub (ws' := [(h0, .inr (0, [.ref h1, .ref h2, .ref h3, .ref h4, .ref h5, .ref h6, .int a0, .int x_779, .int a2, .int a3])), (h1, .inl (cI, 2520, .inl g0)), (h2, .inl (cI, 2520, .inl g1)), (h3, .inl (cI, 2520, .inl f_778)), (h6, .inl (cI, 9, .inl g5))]) [3, 0, 1, 2, 4] rfl, hD.sub (ws' := [(h0, .inr (0, [.ref h1, .ref h2, .ref h3, .ref h4, .ref h5, .ref h6, .int a0, .int x_779, .int a2, .int a3])), (h1, .inl (cI, 2520, .inl g0)), (h2, .inl (cI, 2520, .inl g1)), (h3, .inl (cI, 2520, .inl f_778)), (h6, .inl (cI, 9, .inl g5))]) [3, 0, 1, 2, 4] (by decide) rfl, hS, lv_sub hl [0, 1] rfl, (rg_mono hx_806 (by decide) (by decide)), (rg_mono hx_779 (by decide) (by decide))⟩ (by show ((2520) - x_806.toInt).toNat < ((2520) - x_777.toInt).toNat; have ha := h_799; simp only [rg] at ha; omega)
      · skip
        have h_807 : rg (1) (1) r_803 := by have ha := hr_803; have hb_ := (rg_k (x := 0) (c := 0) (by decide)); simp only [rg, fa_lt, fa_le, fa_eq, (by decide : (0 : Int32).toInt = 0)] at ha hb_ c_804; simp only [rg]; omega
        refine lv_aload_n hx hb dX0_beginnerWins_44 rfl (lv_at hl 1 rfl) ?_
        refine lv_iload_n hx hb dX0_beginnerWins_45 rfl (lv_at hl 0 rfl) ?_
        have hPc := hP.sub (ws' := [(h0, .inr (0, [.ref h1, .ref h2, .ref h3, .ref h4, .ref h5, .ref h6, .int a0, .int x_779, .int a2, .int a3])), (h1, .inl (cI, 2520, .inl g0)), (h3, .inl (cI, 2520, .inl f_778))]) [3, 0, 2] rfl
        have hDc := hD.sub (ws' := [(h0, .inr (0, [.ref h1, .ref h2, .ref h3, .ref h4, .ref h5, .ref h6, .int a0, .int x_779, .int a2, .int a3])), (h1, .inl (cI, 2520, .inl g0)), (h3, .inl (cI, 2520, .inl f_778))]) [3, 0, 2] (by decide) rfl
        have hFc := va_free (wc := [(h0, .inr (0, [.ref h1, .ref h2, .ref h3, .ref h4, .ref h5, .ref h6, .int a0, .int x_779, .int a2, .int a3])), (h1, .inl (cI, 2520, .inl g0)), (h3, .inl (cI, 2520, .inl f_778))]) hD hS hA [3, 0, 2] rfl
        refine va_calli (va_runV (As := [.int x_777]) (rest := []) ⟨hx, hb, hml, hown, hts⟩ (c_s_X0_winsWith l dC dI cB cI cJ cZ cP h0 h1 g0 h2 h3 f_778 h4 h5 h6 a0 (rg_mono h_801 (by decide) (by decide)) x_779 a2 a3 x_777 (rg_mono h_799 (by decide) (by decide)) H.size) (cwV 1 hts (gd_V (List.mem_of_getElem? (i := 8) rfl) (List.mem_of_getElem? (i := 9) rfl) (List.mem_of_getElem? (i := 10) rfl) (List.mem_of_getElem? (i := 7) rfl) (gd_mono k_s_X0_winsWith (fun _ h => List.mem_cons_of_mem _ (List.mem_append_right _ (List.mem_append_right _ (List.mem_append_right _ (List.mem_append_left _ h))))))) rfl rfl rfl (by decide +kernel) ⟨Nat.le_of_ble_eq_true rfl, Nat.le_of_ble_eq_true rfl⟩) ⟨fun a U g mk q => by obtain ⟨q0, q1, qP, qK, qD⟩ := q; exact ⟨q0, q1, qP, va_K.moved (u := U) (U := U.calling g mk a) (Vm.Alike.refl U.vm) qK, qD⟩, va_recv hK hPc (ci := 0) (q0 := 0) rfl rfl, fun U hU hW => ⟨rfl, by rw [hU], by rw [hU]; exact hPc, va_K.moved hW.alike hK, hDc.weaken (fun _ _ _ _ => trivial)⟩⟩ rfl rfl hl.1 rfl (lv_room (Nat.le_of_ble_eq_true rfl)) dX0_beginnerWins_46 ⟨Nat.le_of_ble_eq_true rfl, Nat.le_of_ble_eq_true rfl⟩) hS (fun q _ h => hFc q h) hFc (fun r_808 u t H1 locs ht hvm hw hB hz1 hk1 hS => ?_)
        obtain ⟨x_809, f_810, hx_809, hP1, hD1⟩ := hB
        rw [ht] at hP1
        obtain ⟨hP, hD⟩ := va_join (wr := [(h2, .inl (cI, 2520, .inl g1)), (h6, .inl (cI, 9, .inl g5))]) (w1 := [(h0, .inr (0, [.ref h1, .ref h2, .ref h3, .ref h4, .ref h5, .ref h6, .int a0, .int x_809, .int a2, .int a3])), (h1, .inl (cI, 2520, .inl g0)), (h3, .inl (cI, 2520, .inl f_810))]) hP hD [3, 0, 2] [1, 4] rfl rfl (by decide) (by decide) hk1 hFc hP1 hD1
        generalize H1 = H at hP hS ⊢
        replace hP : va_P (dC, dI) vwCl [(h2, .inl (cI, 2520, .inl g1)), (h6, .inl (cI, 9, .inl g5)), (h0, .inr (0, [.ref h1, .ref h2, .ref h3, .ref h4, .ref h5, .ref h6, .int a0, .int x_809, .int a2, .int a3])), (h1, .inl (cI, 2520, .inl g0)), (h3, .inl (cI, 2520, .inl f_810))] H := hP
        replace hD : va_D A [(h2, .inl (cI, 2520, .inl g1)), (h6, .inl (cI, 9, .inl g5)), (h0, .inr (0, [.ref h1, .ref h2, .ref h3, .ref h4, .ref h5, .ref h6, .int a0, .int x_809, .int a2, .int a3])), (h1, .inl (cI, 2520, .inl g0)), (h3, .inl (cI, 2520, .inl f_810))] := hD
        have hr_808 : rg (0) (1) r_808 := hw
        refine lv_if_eq (tgt := 54) hx hb dX0_beginnerWins_49 (by decide) (fun c_811 => ?_) (fun c_811 => ?_)
        · skip
          have h_812 : rg (0) (0) r_808 := by have ha := hr_808; have hb_ := (rg_k (x := 0) (c := 0) (by decide)); simp only [rg, fa_lt, fa_le, fa_eq, (by decide : (0 : Int32).toInt = 0)] at ha hb_ c_811; simp only [rg]; omega
          obtain ⟨x_813, ex_813⟩ : ∃ y : Int32, y = x_777 + Int32.ofInt (1) := ⟨_, rfl⟩
          have hx_813 : rg (1) (2520) x_813 := by rw [ex_813]; exact rg_mono (rg_add h_799 (rg_k (x := Int32.ofInt (1)) (c := 1) (by decide)) (by decide) (by decide)) (by decide) (by decide)
          have qx_813 : x_813.toInt = x_777.toInt + (1) := by rw [ex_813]; exact rg_addE h_799 (rg_k (x := Int32.ofInt (1)) (c := 1) (by decide)) (by decide) (by decide) (by decide)
          refine lv_iinc (v := x_813) (lv' := [(1, .int x_813), (0, .ref h0)]) hx hb dX0_beginnerWins_54 hl (k := 0) rfl (ex_813.symm) (by decide) rfl (fun ls hl => ?_)
          clear ex_813
          refine lv_goto (tgt := 23) hx hb dX0_beginnerWins_57 (by decide) ?_
          exact ih_797 (x_813, f_810, x_809) H locs ls ⟨hP.sub (ws' := [(h0, .inr (0, [.ref h1, .ref h2, .ref h3, .ref h4, .ref h5, .ref h6, .int a0, .int x_809, .int a2, .int a3])), (h1, .inl (cI, 2520, .inl g0)), (h2, .inl (cI, 2520, .inl g1)), (h3, .inl (cI, 2520, .inl f_810)), (h6, .inl (cI, 9, .inl g5))]) [2, 3, 0, 4, 1] rfl, hD.sub (ws' := [(h0, .inr (0, [.ref h1, .ref h2, .ref h3, .ref h4, .ref h5, .ref h6, .int a0, .int x_809, .int a2, .int a3])), (h1, .inl (cI, 2520, .inl g0)), (h2, .inl (cI, 2520, .inl g1)), (h3, .inl (cI, 2520, .inl f_810)), (h6, .inl (cI, 9, .inl g5))]) [2, 3, 0, 4, 1] (by decide) rfl, hS, lv_sub hl [0, 1] rfl, (rg_mono hx_813 (by decide) (by decide)), (rg_mono hx_809 (by decide) (by decide))⟩ (by show ((2520) - x_813.toInt).toNat < ((2520) - x_777.toInt).toNat; have ha := h_799; simp only [rg] at ha; omega)
        · skip
          have h_814 : rg (1) (1) r_808 := by have ha := hr_808; have hb_ := (rg_k (x := 0) (c := 0) (by decide)); simp only [rg, fa_lt, fa_le, fa_eq, (by decide : (0 : Int32).toInt = 0)] at ha hb_ c_811; simp only [rg]; omega
          refine lv_iconst (v := 1) hx hb dX0_beginnerWins_52 (by decide) ?_
          have hP9 := hP.sub (ws' := [(h0, .inr (0, [.ref h1, .ref h2, .ref h3, .ref h4, .ref h5, .ref h6, .int a0, .int x_809, .int a2, .int a3])), (h1, .inl (cI, 2520, .inl g0)), (h2, .inl (cI, 2520, .inl g1)), (h3, .inl (cI, 2520, .inl f_810)), (h6, .inl (cI, 9, .inl g5))]) [2, 3, 0, 4, 1] rfl
          have hD9 := hD.sub (ws' := [(h0, .inr (0, [.ref h1, .ref h2, .ref h3, .ref h4, .ref h5, .ref h6, .int a0, .int x_809, .int a2, .int a3])), (h1, .inl (cI, 2520, .inl g0)), (h2, .inl (cI, 2520, .inl g1)), (h3, .inl (cI, 2520, .inl f_810)), (h6, .inl (cI, 9, .inl g5))]) [2, 3, 0, 4, 1] (by decide) rfl
          exact W.zret (v := 1) hx hb hr (rfl) (fun t ht hW => ⟨⟨1, (), rfl, (rg_mono (rg_k (x := 1) (c := 1) (by decide)) (by decide) (by decide)), ⟨x_809, f_810, (rg_mono hx_809 (by decide) (by decide)), by rw [ht]; exact hP9, hD9⟩⟩, hS.F ht⟩) hS.2.2 dX0_beginnerWins_53
  · skip
    have h_815 : rg (0) (1) a2 := by have ha := ha2; have hb_ := (rg_k (x := 2) (c := 2) (by decide)); simp only [rg, fa_lt, fa_le, fa_eq, (by decide : (2 : Int32).toInt = 2)] at ha hb_ c_1; simp only [rg]; omega
    refine lv_aload_n hx hb dX0_beginnerWins_8 rfl (lv_at hl 0 rfl) ?_
    refine va_get (D := (dC, dI)) (ci := 0) (v := .int a0) (C := RX0) (T := TX0) (N := 10) hx hb hts hinX0 hown hK hP 0 rfl rfl 6 (by decide) (hts (.fieldLink RX0 30 "MayRings$Families" "count" "I") (List.mem_of_getElem? (i := 2) rfl)) (fun _ h9 => h9) rfl dX0_beginnerWins_9 ?_
    refine lv_if_le (tgt := 19) hx hb dX0_beginnerWins_12 (by decide) (fun c_816 => ?_) (fun c_816 => ?_)
    · skip
      have h_817 : rg (0) (0) a0 := by have ha := ha0; have hb_ := (rg_k (x := 0) (c := 0) (by decide)); simp only [rg, fa_lt, fa_le, fa_eq, (by decide : (0 : Int32).toInt = 0)] at ha hb_ c_816; simp only [rg]; omega
      refine lv_iconst (v := 0) hx hb dX0_beginnerWins_19 (by decide) ?_
      have hP9 := hP.sub (ws' := [(h0, .inr (0, [.ref h1, .ref h2, .ref h3, .ref h4, .ref h5, .ref h6, .int a0, .int a1, .int a2, .int a3])), (h1, .inl (cI, 2520, .inl g0)), (h2, .inl (cI, 2520, .inl g1)), (h3, .inl (cI, 2520, .inl g2)), (h6, .inl (cI, 9, .inl g5))]) [0, 1, 2, 3, 4] rfl
      have hD9 := hD.sub (ws' := [(h0, .inr (0, [.ref h1, .ref h2, .ref h3, .ref h4, .ref h5, .ref h6, .int a0, .int a1, .int a2, .int a3])), (h1, .inl (cI, 2520, .inl g0)), (h2, .inl (cI, 2520, .inl g1)), (h3, .inl (cI, 2520, .inl g2)), (h6, .inl (cI, 9, .inl g5))]) [0, 1, 2, 3, 4] (by decide) rfl
      exact W.zret (v := 0) hx hb hr (rfl) (fun t ht hW => ⟨⟨0, (), rfl, (rg_mono (rg_k (x := 0) (c := 0) (by decide)) (by decide) (by decide)), ⟨a1, g2, (rg_mono ha1 (by decide) (by decide)), by rw [ht]; exact hP9, hD9⟩⟩, hS.F ht⟩) hS.2.2 dX0_beginnerWins_20
    · skip
      have h_818 : rg (1) (2520) a0 := by have ha := ha0; have hb_ := (rg_k (x := 0) (c := 0) (by decide)); simp only [rg, fa_lt, fa_le, fa_eq, (by decide : (0 : Int32).toInt = 0)] at ha hb_ c_816; simp only [rg]; omega
      refine lv_iconst (v := 1) hx hb dX0_beginnerWins_15 (by decide) ?_
      refine lv_goto (tgt := 20) hx hb dX0_beginnerWins_16 (by decide) ?_
      have hP9 := hP.sub (ws' := [(h0, .inr (0, [.ref h1, .ref h2, .ref h3, .ref h4, .ref h5, .ref h6, .int a0, .int a1, .int a2, .int a3])), (h1, .inl (cI, 2520, .inl g0)), (h2, .inl (cI, 2520, .inl g1)), (h3, .inl (cI, 2520, .inl g2)), (h6, .inl (cI, 9, .inl g5))]) [0, 1, 2, 3, 4] rfl
      have hD9 := hD.sub (ws' := [(h0, .inr (0, [.ref h1, .ref h2, .ref h3, .ref h4, .ref h5, .ref h6, .int a0, .int a1, .int a2, .int a3])), (h1, .inl (cI, 2520, .inl g0)), (h2, .inl (cI, 2520, .inl g1)), (h3, .inl (cI, 2520, .inl g2)), (h6, .inl (cI, 9, .inl g5))]) [0, 1, 2, 3, 4] (by decide) rfl
      exact W.zret (v := 1) hx hb hr (rfl) (fun t ht hW => ⟨⟨1, (), rfl, (rg_mono (rg_k (x := 1) (c := 1) (by decide)) (by decide) (by decide)), ⟨a1, g2, (rg_mono ha1 (by decide) (by decide)), by rw [ht]; exact hP9, hD9⟩⟩, hS.F ht⟩) hS.2.2 dX0_beginnerWins_20
def v_s_X0_hasPairApart : List Cond := Cond.code yX0_hasPairApart cX0_hasPairApart 2 (some .boolean) :: ([Cond.fieldLink RX0 34 "MayRings$Families" "restCount" "I", Cond.fieldLink RX0 18 "MayRings$Families" "rest" "[I", Cond.methodLink RX0 133 yX0_hasApart, Cond.instanceMethod yX0_hasApart, Cond.selects RX0 yX0_hasApart yX0_hasApart, Cond.initialized RX0] ++ (wsX00 ++ (v_s_X0_hasApart ++ ([]))))
theorem k_s_X0_hasPairApart : GoodIn lw_tbl v_s_X0_hasPairApart := gd_c (List.mem_of_getElem? (i := 1082) (by decide +kernel)) rfl (goodIn_app (gd_c (List.mem_of_getElem? (i := 507) (by decide +kernel)) rfl (gd_c (List.mem_of_getElem? (i := 502) (by decide +kernel)) rfl (gd_c (List.mem_of_getElem? (i := 1083) (by decide +kernel)) rfl (gd_c (List.mem_of_getElem? (i := 1085) (by decide +kernel)) rfl (gd_c (List.mem_of_getElem? (i := 63) (by decide +kernel)) rfl (gd_c (List.mem_of_getElem? (i := 143) (by decide +kernel)) rfl (gd_nil))))))) (goodIn_app kfX0 (goodIn_app k_s_X0_hasApart (gd_nil))))
set_option maxHeartbeats 2000000 in
set_option maxRecDepth 100000 in
theorem c_s_X0_hasPairApart (l : Launch) (dC : Nat → ClassId) (dI : Nat → Nat → Nat) (cB cI cJ cZ cP : ClassId) (h0 : Nat) (h1 : Nat) (h2 : Nat) (h3 : Nat) (g2 : Nat → Int32) (h4 : Nat) (h5 : Nat) (h6 : Nat) (a0 : Int32) (a1 : Int32) (ha1 : rg (0) (2520) a1) (a2 : Int32) (a3 : Int32) (sz : Nat) : Met l yX0_hasPairApart v_s_X0_hasPairApart ({ frames := 1, cells := 0, slots := 0, locals := 23 }) (va_Pc [.ref h0] (fun U => U.heap.size = sz ∧ va_P (dC, dI) vwCl [(h0, .inr (0, [.ref h1, .ref h2, .ref h3, .ref h4, .ref h5, .ref h6, .int a0, .int a1, .int a2, .int a3])), (h3, .inl (cI, 2520, .inl g2))] U.heap ∧ va_K (dC, dI) vwCl (ty5 cB cI cJ cZ cP) U ∧ va_D (fun _ => True) [(h0, .inr (0, [.ref h1, .ref h2, .ref h3, .ref h4, .ref h5, .ref h6, .int a0, .int a1, .int a2, .int a3])), (h3, .inl (cI, 2520, .inl g2))])) (va_Qi (fun (r : Int32) (u9 : Unit) => rg (0) (1) r) (fun u9 t => va_P (dC, dI) vwCl [(h0, .inr (0, [.ref h1, .ref h2, .ref h3, .ref h4, .ref h5, .ref h6, .int a0, .int a1, .int a2, .int a3])), (h3, .inl (cI, 2520, .inl g2))] t.heap ∧ va_D (va_A [(h0, .inr (0, [.ref h1, .ref h2, .ref h3, .ref h4, .ref h5, .ref h6, .int a0, .int a1, .int a2, .int a3])), (h3, .inl (cI, 2520, .inl g2))] sz) [(h0, .inr (0, [.ref h1, .ref h2, .ref h3, .ref h4, .ref h5, .ref h6, .int a0, .int a1, .int a2, .int a3])), (h3, .inl (cI, 2520, .inl g2))]) (va_A [(h0, .inr (0, [.ref h1, .ref h2, .ref h3, .ref h4, .ref h5, .ref h6, .int a0, .int a1, .int a2, .int a3])), (h3, .inl (cI, 2520, .inl g2))] sz)) 0 0 (va_A [(h0, .inr (0, [.ref h1, .ref h2, .ref h3, .ref h4, .ref h5, .ref h6, .int a0, .int a1, .int a2, .int a3])), (h3, .inl (cI, 2520, .inl g2))] sz) := by
  refine Met.ofW (cc := cX0_hasPairApart) (maxL := 2) (ret := (some .boolean)) (by decide) rfl ?_
  intro p e s m args below meth c s₁ B hml hv
  obtain ⟨rfl, hsz, hP, hK, hD0⟩ := hv
  have hx := B.exec
  have hb := B.bytes
  have hr := B.returns
  have hts := atoms_spec (ws := v_s_X0_hasPairApart) B.pre
  have hown : s.vm.findClass RX0 = some m.cls := findClass_of_methodNamed B.named
  have hlocks := B.notSynchronized
  have hinX0 : ∀ w ∈ wsX00, w ∈ v_s_X0_hasPairApart := fun _ h => List.mem_cons_of_mem _ (List.mem_append_right _ (List.mem_append_left _ h))
  subst hsz
  have hD := hD0.self (sz := s.heap.size)
  generalize hAe : va_A [(h0, .inr (0, [.ref h1, .ref h2, .ref h3, .ref h4, .ref h5, .ref h6, .int a0, .int a1, .int a2, .int a3])), (h3, .inl (cI, 2520, .inl g2))] s.heap.size = A at hD ⊢
  have hA : ∀ q : Nat, s.heap.size ≤ q → A q := fun q h => by rw [← hAe]; exact Or.inr h
  have hP : va_P (dC, dI) vwCl [(h0, .inr (0, [.ref h1, .ref h2, .ref h3, .ref h4, .ref h5, .ref h6, .int a0, .int a1, .int a2, .int a3])), (h3, .inl (cI, 2520, .inl g2))] s.heap := hP
  have hl := lv_entry ([.ref h0]) (n := 2) (Nat.le_of_ble_eq_true rfl)
  rw [lg_entry_eq]
  generalize (lg_sl ([.ref h0]) ++ List.replicate (2 - (lg_sl ([.ref h0])).length) Slot.unset).toArray = ls at hl ⊢
  have hl : lv_has ls 2 [(0, .ref h0)] := hl
  refine W_gen (A := A) hP (fun H locs hP hS => ?_)
  refine lv_iconst (v := 0) hx hb dX0_hasPairApart_0 (by decide) ?_
  refine lv_istore_n (lv' := [(1, .int 0), (0, .ref h0)]) hx hb dX0_hasPairApart_1 rfl hl (by decide) rfl (fun ls hl => ?_)
  refine W_loopM (σ := Int32) (fun u H locs ls => va_P (dC, dI) vwCl [(h0, .inr (0, [.ref h1, .ref h2, .ref h3, .ref h4, .ref h5, .ref h6, .int a0, .int a1, .int a2, .int a3])), (h3, .inl (cI, 2520, .inl g2))] H ∧ va_D A [(h0, .inr (0, [.ref h1, .ref h2, .ref h3, .ref h4, .ref h5, .ref h6, .int a0, .int a1, .int a2, .int a3])), (h3, .inl (cI, 2520, .inl g2))] ∧ va_S A s.heap H locs ∧ lv_has ls 2 [(1, .int u), (0, .ref h0)] ∧ rg (0) (2520) u) (fun u => ((2520) - u.toInt).toNat) 2 [] ?_ (0) H locs ls ⟨hP, hD, hS, hl, (rg_mono (rg_k (x := 0) (c := 0) (by decide)) (by decide) (by decide))⟩
  rintro x_449 H locs ls ⟨hP, hD, hS, hl, hx_449⟩ ih_461
  replace hP : va_P (dC, dI) vwCl [(h0, .inr (0, [.ref h1, .ref h2, .ref h3, .ref h4, .ref h5, .ref h6, .int a0, .int a1, .int a2, .int a3])), (h3, .inl (cI, 2520, .inl g2))] H := hP
  replace hD : va_D A [(h0, .inr (0, [.ref h1, .ref h2, .ref h3, .ref h4, .ref h5, .ref h6, .int a0, .int a1, .int a2, .int a3])), (h3, .inl (cI, 2520, .inl g2))] := hD
  replace hl : lv_has ls 2 [(1, .int x_449), (0, .ref h0)] := hl
  replace hx_449 : rg (0) (2520) x_449 := hx_449
  refine lv_iload_n hx hb dX0_hasPairApart_2 rfl (lv_at hl 0 rfl) ?_
  refine lv_aload_n hx hb dX0_hasPairApart_3 rfl (lv_at hl 1 rfl) ?_
  refine va_get (D := (dC, dI)) (ci := 0) (v := .int a1) (C := RX0) (T := TX0) (N := 10) hx hb hts hinX0 hown hK hP 0 rfl rfl 7 (by decide) (hts (.fieldLink RX0 34 "MayRings$Families" "restCount" "I") (List.mem_of_getElem? (i := 1) rfl)) (fun _ h9 => h9) rfl dX0_hasPairApart_4 ?_
  refine lv_icmp_ge (tgt := 34) hx hb dX0_hasPairApart_7 (by decide) (fun c_462 => ?_) (fun c_462 => ?_)
  · skip
    refine lv_iconst (v := 0) hx hb dX0_hasPairApart_34 (by decide) ?_
    have hP9 := hP.sub (ws' := [(h0, .inr (0, [.ref h1, .ref h2, .ref h3, .ref h4, .ref h5, .ref h6, .int a0, .int a1, .int a2, .int a3])), (h3, .inl (cI, 2520, .inl g2))]) [0, 1] rfl
    have hD9 := hD.sub (ws' := [(h0, .inr (0, [.ref h1, .ref h2, .ref h3, .ref h4, .ref h5, .ref h6, .int a0, .int a1, .int a2, .int a3])), (h3, .inl (cI, 2520, .inl g2))]) [0, 1] (by decide) rfl
    exact W.zret (v := 0) hx hb hr (rfl) (fun t ht hW => ⟨⟨0, (), rfl, (rg_mono (rg_k (x := 0) (c := 0) (by decide)) (by decide) (by decide)), ⟨by rw [ht]; exact hP9, hD9⟩⟩, hS.F ht⟩) hS.2.2 dX0_hasPairApart_35
  · skip
    have h_463 : rg (0) (2519) x_449 := by have ha := hx_449; have hb_ := ha1; simp only [rg, fa_lt, fa_le, fa_eq] at ha hb_ c_462; simp only [rg]; omega
    have h_464 : rg (1) (2520) a1 := by have ha := h_463; have hb_ := ha1; have hc_ := c_462; simp only [rg, fa_lt, fa_le, fa_eq] at ha hb_ hc_; simp only [rg]; omega
    have h_465 : rg (1) (2520) a1 := by have ha := hx_449; have hb_ := ha1; simp only [rg, fa_lt, fa_le, fa_eq] at ha hb_ c_462; simp only [rg]; omega
    refine lv_aload_n hx hb dX0_hasPairApart_10 rfl (lv_at hl 1 rfl) ?_
    refine lv_aload_n hx hb dX0_hasPairApart_11 rfl (lv_at hl 1 rfl) ?_
    refine va_get (D := (dC, dI)) (ci := 0) (v := .ref h3) (C := RX0) (T := TX0) (N := 10) hx hb hts hinX0 hown hK hP 0 rfl rfl 2 (by decide) (hts (.fieldLink RX0 18 "MayRings$Families" "rest" "[I") (List.mem_of_getElem? (i := 2) rfl)) (fun _ h9 => h9) rfl dX0_hasPairApart_12 ?_
    refine lv_iload_n hx hb dX0_hasPairApart_15 rfl (lv_at hl 0 rfl) ?_
    refine va_iald hx hb hK hP 1 1 rfl rfl (rg_in (n := 2520) (rg_mono h_463 (by decide) (by decide))) dX0_hasPairApart_16 ?_
    refine lv_topi (fun x_466 ex_466 => ?_)
    refine lv_iload_n hx hb dX0_hasPairApart_17 rfl (lv_at hl 0 rfl) ?_
    refine lv_iconst (v := 1) hx hb dX0_hasPairApart_18 (by decide) ?_
    refine lv_iadd hx hb dX0_hasPairApart_19 ?_
    refine lv_topi (fun x_467 ex_467 => ?_)
    have hx_467 : rg (1) (2520) x_467 := by rw [ex_467]; exact rg_mono (rg_add h_463 (rg_k (x := 1) (c := 1) (by decide)) (by decide) (by decide)) (by decide) (by decide)
    have qx_467 : x_467.toInt = x_449.toInt + (1) := by rw [ex_467]; exact rg_addE h_463 (rg_k (x := 1) (c := 1) (by decide)) (by decide) (by decide) trivial
    have hPc := hP.sub (ws' := [(h0, .inr (0, [.ref h1, .ref h2, .ref h3, .ref h4, .ref h5, .ref h6, .int a0, .int a1, .int a2, .int a3])), (h3, .inl (cI, 2520, .inl g2))]) [0, 1] rfl
    have hDc := hD.sub (ws' := [(h0, .inr (0, [.ref h1, .ref h2, .ref h3, .ref h4, .ref h5, .ref h6, .int a0, .int a1, .int a2, .int a3])), (h3, .inl (cI, 2520, .inl g2))]) [0, 1] (by decide) rfl
    have hFc := va_free (wc := [(h0, .inr (0, [.ref h1, .ref h2, .ref h3, .ref h4, .ref h5, .ref h6, .int a0, .int a1, .int a2, .int a3])), (h3, .inl (cI, 2520, .inl g2))]) hD hS hA [0, 1] rfl
    refine va_calli (va_runV (As := [.int x_466, .int x_467]) (rest := []) ⟨hx, hb, hml, hown, hts⟩ (c_s_X0_hasApart l dC dI cB cI cJ cZ cP h0 h1 h2 h3 g2 h4 h5 h6 a0 a1 (rg_mono h_465 (by decide) (by decide)) a2 a3 x_466 x_467 (rg_mono hx_467 (by decide) (by decide)) H.size) (cwV 2 hts (gd_V (List.mem_of_getElem? (i := 3) rfl) (List.mem_of_getElem? (i := 4) rfl) (List.mem_of_getElem? (i := 5) rfl) (List.mem_of_getElem? (i := 6) rfl) (gd_mono k_s_X0_hasApart (fun _ h => List.mem_cons_of_mem _ (List.mem_append_right _ (List.mem_append_right _ (List.mem_append_left _ h)))))) rfl rfl rfl (by decide +kernel) ⟨Nat.le_of_ble_eq_true rfl, Nat.le_of_ble_eq_true rfl⟩) ⟨fun a U g mk q => by obtain ⟨q0, q1, qP, qK, qD⟩ := q; exact ⟨q0, q1, qP, va_K.moved (u := U) (U := U.calling g mk a) (Vm.Alike.refl U.vm) qK, qD⟩, va_recv hK hPc (ci := 0) (q0 := 0) rfl rfl, fun U hU hW => ⟨rfl, by rw [hU], by rw [hU]; exact hPc, va_K.moved hW.alike hK, hDc.weaken (fun _ _ _ _ => trivial)⟩⟩ rfl rfl hl.1 rfl (lv_room (Nat.le_of_ble_eq_true rfl)) dX0_hasPairApart_20 ⟨Nat.le_of_ble_eq_true rfl, Nat.le_of_ble_eq_true rfl⟩) hS (fun q _ h => hFc q h) hFc (fun r_468 u t H1 locs ht hvm hw hB hz1 hk1 hS => ?_)
    obtain ⟨hP1, hD1⟩ := hB
    rw [ht] at hP1
    obtain ⟨hP, hD⟩ := va_join (wr := []) (w1 := [(h0, .inr (0, [.ref h1, .ref h2, .ref h3, .ref h4, .ref h5, .ref h6, .int a0, .int a1, .int a2, .int a3])), (h3, .inl (cI, 2520, .inl g2))]) hP hD [0, 1] [] rfl rfl (by decide) (by decide) hk1 hFc hP1 hD1
    generalize H1 = H at hP hS ⊢
    replace hP : va_P (dC, dI) vwCl [(h0, .inr (0, [.ref h1, .ref h2, .ref h3, .ref h4, .ref h5, .ref h6, .int a0, .int a1, .int a2, .int a3])), (h3, .inl (cI, 2520, .inl g2))] H := hP
    replace hD : va_D A [(h0, .inr (0, [.ref h1, .ref h2, .ref h3, .ref h4, .ref h5, .ref h6, .int a0, .int a1, .int a2, .int a3])), (h3, .inl (cI, 2520, .inl g2))] := hD
    have hr_468 : rg (0) (1) r_468 := hw
    refine lv_if_eq (tgt := 28) hx hb dX0_hasPairApart_23 (by decide) (fun c_469 => ?_) (fun c_469 => ?_)
    · skip
      have h_470 : rg (0) (0) r_468 := by have ha := hr_468; have hb_ := (rg_k (x := 0) (c := 0) (by decide)); simp only [rg, fa_lt, fa_le, fa_eq, (by decide : (0 : Int32).toInt = 0)] at ha hb_ c_469; simp only [rg]; omega
      obtain ⟨x_471, ex_471⟩ : ∃ y : Int32, y = x_449 + Int32.ofInt (1) := ⟨_, rfl⟩
      have hx_471 : rg (1) (2520) x_471 := by rw [ex_471]; exact rg_mono (rg_add h_463 (rg_k (x := Int32.ofInt (1)) (c := 1) (by decide)) (by decide) (by decide)) (by decide) (by decide)
      have qx_471 : x_471.toInt = x_449.toInt + (1) := by rw [ex_471]; exact rg_addE h_463 (rg_k (x := Int32.ofInt (1)) (c := 1) (by decide)) (by decide) (by decide) (by decide)
      refine lv_iinc (v := x_471) (lv' := [(1, .int x_471), (0, .ref h0)]) hx hb dX0_hasPairApart_28 hl (k := 0) rfl (ex_471.symm) (by decide) rfl (fun ls hl => ?_)
      clear ex_471
      refine lv_goto (tgt := 2) hx hb dX0_hasPairApart_31 (by decide) ?_
      exact ih_461 (x_471) H locs ls ⟨hP.sub (ws' := [(h0, .inr (0, [.ref h1, .ref h2, .ref h3, .ref h4, .ref h5, .ref h6, .int a0, .int a1, .int a2, .int a3])), (h3, .inl (cI, 2520, .inl g2))]) [0, 1] rfl, hD.sub (ws' := [(h0, .inr (0, [.ref h1, .ref h2, .ref h3, .ref h4, .ref h5, .ref h6, .int a0, .int a1, .int a2, .int a3])), (h3, .inl (cI, 2520, .inl g2))]) [0, 1] (by decide) rfl, hS, lv_sub hl [0, 1] rfl, (rg_mono hx_471 (by decide) (by decide))⟩ (by show ((2520) - x_471.toInt).toNat < ((2520) - x_449.toInt).toNat; have ha := h_463; simp only [rg] at ha; omega)
    · skip
      have h_472 : rg (1) (1) r_468 := by have ha := hr_468; have hb_ := (rg_k (x := 0) (c := 0) (by decide)); simp only [rg, fa_lt, fa_le, fa_eq, (by decide : (0 : Int32).toInt = 0)] at ha hb_ c_469; simp only [rg]; omega
      refine lv_iconst (v := 1) hx hb dX0_hasPairApart_26 (by decide) ?_
      have hP9 := hP.sub (ws' := [(h0, .inr (0, [.ref h1, .ref h2, .ref h3, .ref h4, .ref h5, .ref h6, .int a0, .int a1, .int a2, .int a3])), (h3, .inl (cI, 2520, .inl g2))]) [0, 1] rfl
      have hD9 := hD.sub (ws' := [(h0, .inr (0, [.ref h1, .ref h2, .ref h3, .ref h4, .ref h5, .ref h6, .int a0, .int a1, .int a2, .int a3])), (h3, .inl (cI, 2520, .inl g2))]) [0, 1] (by decide) rfl
      exact W.zret (v := 1) hx hb hr (rfl) (fun t ht hW => ⟨⟨1, (), rfl, (rg_mono (rg_k (x := 1) (c := 1) (by decide)) (by decide) (by decide)), ⟨by rw [ht]; exact hP9, hD9⟩⟩, hS.F ht⟩) hS.2.2 dX0_hasPairApart_27
def v_s_X0_canLead : List Cond := Cond.code yX0_canLead cX0_canLead 3 (some .boolean) :: ([Cond.methodLink RX0 126 yX0_keepApart, Cond.instanceMethod yX0_keepApart, Cond.selects RX0 yX0_keepApart yX0_keepApart, Cond.initialized RX0, Cond.fieldLink RX0 34 "MayRings$Families" "restCount" "I", Cond.methodLink RX0 129 yX0_hasPairApart, Cond.instanceMethod yX0_hasPairApart, Cond.selects RX0 yX0_hasPairApart yX0_hasPairApart] ++ (wsX00 ++ (v_s_X0_keepApart ++ (v_s_X0_hasPairApart ++ ([])))))
theorem k_s_X0_canLead : GoodIn lw_tbl v_s_X0_canLead := gd_c (List.mem_of_getElem? (i := 1074) (by decide +kernel)) rfl (goodIn_app (gd_c (List.mem_of_getElem? (i := 1075) (by decide +kernel)) rfl (gd_c (List.mem_of_getElem? (i := 1077) (by decide +kernel)) rfl (gd_c (List.mem_of_getElem? (i := 61) (by decide +kernel)) rfl (gd_c (List.mem_of_getElem? (i := 143) (by decide +kernel)) rfl (gd_c (List.mem_of_getElem? (i := 507) (by decide +kernel)) rfl (gd_c (List.mem_of_getElem? (i := 1079) (by decide +kernel)) rfl (gd_c (List.mem_of_getElem? (i := 1081) (by decide +kernel)) rfl (gd_c (List.mem_of_getElem? (i := 62) (by decide +kernel)) rfl (gd_nil))))))))) (goodIn_app kfX0 (goodIn_app k_s_X0_keepApart (goodIn_app k_s_X0_hasPairApart (gd_nil)))))
set_option maxHeartbeats 2000000 in
set_option maxRecDepth 100000 in
theorem c_s_X0_canLead (l : Launch) (dC : Nat → ClassId) (dI : Nat → Nat → Nat) (cB cI cJ cZ cP : ClassId) (h0 : Nat) (h1 : Nat) (g0 : Nat → Int32) (h2 : Nat) (h3 : Nat) (g2 : Nat → Int32) (h4 : Nat) (h5 : Nat) (h6 : Nat) (a0 : Int32) (ha0 : rg (0) (2520) a0) (a1 : Int32) (a2 : Int32) (a3 : Int32) (p0 : Int32) (hp0 : rg (0) (2519) p0) (p1 : Int32) (sz : Nat) : Met l yX0_canLead v_s_X0_canLead ({ frames := 2, cells := 0, slots := 0, locals := 44 }) (va_Pc [.ref h0, .int p0, .int p1] (fun U => U.heap.size = sz ∧ va_P (dC, dI) vwCl [(h0, .inr (0, [.ref h1, .ref h2, .ref h3, .ref h4, .ref h5, .ref h6, .int a0, .int a1, .int a2, .int a3])), (h1, .inl (cI, 2520, .inl g0)), (h3, .inl (cI, 2520, .inl g2))] U.heap ∧ va_K (dC, dI) vwCl (ty5 cB cI cJ cZ cP) U ∧ va_D (fun _ => True) [(h0, .inr (0, [.ref h1, .ref h2, .ref h3, .ref h4, .ref h5, .ref h6, .int a0, .int a1, .int a2, .int a3])), (h1, .inl (cI, 2520, .inl g0)), (h3, .inl (cI, 2520, .inl g2))])) (va_Qi (fun (r : Int32) (u9 : Unit) => rg (0) (1) r) (fun u9 t => ∃ (z0 : Int32) (z1 : Nat → Int32), rg (0) (2520) z0 ∧ va_P (dC, dI) vwCl [(h0, .inr (0, [.ref h1, .ref h2, .ref h3, .ref h4, .ref h5, .ref h6, .int a0, .int z0, .int a2, .int a3])), (h1, .inl (cI, 2520, .inl g0)), (h3, .inl (cI, 2520, .inl z1))] t.heap ∧ va_D (va_A [(h0, .inr (0, [.ref h1, .ref h2, .ref h3, .ref h4, .ref h5, .ref h6, .int a0, .int a1, .int a2, .int a3])), (h1, .inl (cI, 2520, .inl g0)), (h3, .inl (cI, 2520, .inl g2))] sz) [(h0, .inr (0, [.ref h1, .ref h2, .ref h3, .ref h4, .ref h5, .ref h6, .int a0, .int z0, .int a2, .int a3])), (h1, .inl (cI, 2520, .inl g0)), (h3, .inl (cI, 2520, .inl z1))]) (va_A [(h0, .inr (0, [.ref h1, .ref h2, .ref h3, .ref h4, .ref h5, .ref h6, .int a0, .int a1, .int a2, .int a3])), (h1, .inl (cI, 2520, .inl g0)), (h3, .inl (cI, 2520, .inl g2))] sz)) 0 0 (va_A [(h0, .inr (0, [.ref h1, .ref h2, .ref h3, .ref h4, .ref h5, .ref h6, .int a0, .int a1, .int a2, .int a3])), (h1, .inl (cI, 2520, .inl g0)), (h3, .inl (cI, 2520, .inl g2))] sz) := by
  refine Met.ofW (cc := cX0_canLead) (maxL := 3) (ret := (some .boolean)) (by decide) rfl ?_
  intro p e s m args below meth c s₁ B hml hv
  obtain ⟨rfl, hsz, hP, hK, hD0⟩ := hv
  have hx := B.exec
  have hb := B.bytes
  have hr := B.returns
  have hts := atoms_spec (ws := v_s_X0_canLead) B.pre
  have hown : s.vm.findClass RX0 = some m.cls := findClass_of_methodNamed B.named
  have hlocks := B.notSynchronized
  have hinX0 : ∀ w ∈ wsX00, w ∈ v_s_X0_canLead := fun _ h => List.mem_cons_of_mem _ (List.mem_append_right _ (List.mem_append_left _ h))
  subst hsz
  have hD := hD0.self (sz := s.heap.size)
  generalize hAe : va_A [(h0, .inr (0, [.ref h1, .ref h2, .ref h3, .ref h4, .ref h5, .ref h6, .int a0, .int a1, .int a2, .int a3])), (h1, .inl (cI, 2520, .inl g0)), (h3, .inl (cI, 2520, .inl g2))] s.heap.size = A at hD ⊢
  have hA : ∀ q : Nat, s.heap.size ≤ q → A q := fun q h => by rw [← hAe]; exact Or.inr h
  have hP : va_P (dC, dI) vwCl [(h0, .inr (0, [.ref h1, .ref h2, .ref h3, .ref h4, .ref h5, .ref h6, .int a0, .int a1, .int a2, .int a3])), (h1, .inl (cI, 2520, .inl g0)), (h3, .inl (cI, 2520, .inl g2))] s.heap := hP
  have hl := lv_entry ([.ref h0, .int p0, .int p1]) (n := 3) (Nat.le_of_ble_eq_true rfl)
  rw [lg_entry_eq]
  generalize (lg_sl ([.ref h0, .int p0, .int p1]) ++ List.replicate (3 - (lg_sl ([.ref h0, .int p0, .int p1])).length) Slot.unset).toArray = ls at hl ⊢
  have hl : lv_has ls 3 [(0, .ref h0), (1, .int p0), (2, .int p1)] := hl
  refine W_gen (A := A) hP (fun H locs hP hS => ?_)
  refine lv_aload_n hx hb dX0_canLead_0 rfl (lv_at hl 0 rfl) ?_
  refine lv_iload_n hx hb dX0_canLead_1 rfl (lv_at hl 1 rfl) ?_
  refine lv_iload_n hx hb dX0_canLead_2 rfl (lv_at hl 1 rfl) ?_
  refine lv_iconst (v := 1) hx hb dX0_canLead_3 (by decide) ?_
  refine lv_iadd hx hb dX0_canLead_4 ?_
  refine lv_topi (fun x_1 ex_1 => ?_)
  have hx_1 : rg (1) (2520) x_1 := by rw [ex_1]; exact rg_mono (rg_add hp0 (rg_k (x := 1) (c := 1) (by decide)) (by decide) (by decide)) (by decide) (by decide)
  have qx_1 : x_1.toInt = p0.toInt + (1) := by rw [ex_1]; exact rg_addE hp0 (rg_k (x := 1) (c := 1) (by decide)) (by decide) (by decide) trivial
  have hPc := hP.sub (ws' := [(h0, .inr (0, [.ref h1, .ref h2, .ref h3, .ref h4, .ref h5, .ref h6, .int a0, .int a1, .int a2, .int a3])), (h1, .inl (cI, 2520, .inl g0)), (h3, .inl (cI, 2520, .inl g2))]) [0, 1, 2] rfl
  have hDc := hD.sub (ws' := [(h0, .inr (0, [.ref h1, .ref h2, .ref h3, .ref h4, .ref h5, .ref h6, .int a0, .int a1, .int a2, .int a3])), (h1, .inl (cI, 2520, .inl g0)), (h3, .inl (cI, 2520, .inl g2))]) [0, 1, 2] (by decide) rfl
  have hFc := va_free (wc := [(h0, .inr (0, [.ref h1, .ref h2, .ref h3, .ref h4, .ref h5, .ref h6, .int a0, .int a1, .int a2, .int a3])), (h1, .inl (cI, 2520, .inl g0)), (h3, .inl (cI, 2520, .inl g2))]) hD hS hA [0, 1, 2] rfl
  refine va_callv (va_runV (As := [.int p0, .int x_1]) (rest := []) ⟨hx, hb, hml, hown, hts⟩ (c_s_X0_keepApart l dC dI cB cI cJ cZ cP h0 h1 g0 h2 h3 g2 h4 h5 h6 a0 (rg_mono ha0 (by decide) (by decide)) a1 a2 a3 p0 (rg_mono hp0 (by decide) (by decide)) x_1 (rg_mono hx_1 (by decide) (by decide)) H.size) (cwV 2 hts (gd_V (List.mem_of_getElem? (i := 1) rfl) (List.mem_of_getElem? (i := 2) rfl) (List.mem_of_getElem? (i := 3) rfl) (List.mem_of_getElem? (i := 4) rfl) (gd_mono k_s_X0_keepApart (fun _ h => List.mem_cons_of_mem _ (List.mem_append_right _ (List.mem_append_right _ (List.mem_append_left _ h)))))) rfl rfl rfl (by decide +kernel) ⟨Nat.le_of_ble_eq_true rfl, Nat.le_of_ble_eq_true rfl⟩) ⟨fun a U g mk q => by obtain ⟨q0, q1, qP, qK, qD⟩ := q; exact ⟨q0, q1, qP, va_K.moved (u := U) (U := U.calling g mk a) (Vm.Alike.refl U.vm) qK, qD⟩, va_recv hK hPc (ci := 0) (q0 := 0) rfl rfl, fun U hU hW => ⟨rfl, by rw [hU], by rw [hU]; exact hPc, va_K.moved hW.alike hK, hDc.weaken (fun _ _ _ _ => trivial)⟩⟩ rfl rfl hl.1 rfl (lv_room (Nat.le_of_ble_eq_true rfl)) dX0_canLead_5 ⟨Nat.le_of_ble_eq_true rfl, Nat.le_of_ble_eq_true rfl⟩) hS (fun q _ h => hFc q h) hFc (fun u t H1 locs ht hvm hw hB hz1 hk1 hS => ?_)
  obtain ⟨x_3, f_4, hx_3, hP1, hD1⟩ := hB
  rw [ht] at hP1
  obtain ⟨hP, hD⟩ := va_join (wr := []) (w1 := [(h0, .inr (0, [.ref h1, .ref h2, .ref h3, .ref h4, .ref h5, .ref h6, .int a0, .int x_3, .int a2, .int a3])), (h1, .inl (cI, 2520, .inl g0)), (h3, .inl (cI, 2520, .inl f_4))]) hP hD [0, 1, 2] [] rfl rfl (by decide) (by decide) hk1 hFc hP1 hD1
  generalize H1 = H at hP hS ⊢
  replace hP : va_P (dC, dI) vwCl [(h0, .inr (0, [.ref h1, .ref h2, .ref h3, .ref h4, .ref h5, .ref h6, .int a0, .int x_3, .int a2, .int a3])), (h1, .inl (cI, 2520, .inl g0)), (h3, .inl (cI, 2520, .inl f_4))] H := hP
  replace hD : va_D A [(h0, .inr (0, [.ref h1, .ref h2, .ref h3, .ref h4, .ref h5, .ref h6, .int a0, .int x_3, .int a2, .int a3])), (h1, .inl (cI, 2520, .inl g0)), (h3, .inl (cI, 2520, .inl f_4))] := hD
  refine lv_aload_n hx hb dX0_canLead_8 rfl (lv_at hl 0 rfl) ?_
  refine va_get (D := (dC, dI)) (ci := 0) (v := .int x_3) (C := RX0) (T := TX0) (N := 10) hx hb hts hinX0 hown hK hP 0 rfl rfl 7 (by decide) (hts (.fieldLink RX0 34 "MayRings$Families" "restCount" "I") (List.mem_of_getElem? (i := 5) rfl)) (fun _ h9 => h9) rfl dX0_canLead_9 ?_
  refine lv_if_le (tgt := 31) hx hb dX0_canLead_12 (by decide) (fun c_5 => ?_) (fun c_5 => ?_)
  · skip
    have h_6 : rg (0) (0) x_3 := by have ha := hx_3; have hb_ := (rg_k (x := 0) (c := 0) (by decide)); simp only [rg, fa_lt, fa_le, fa_eq, (by decide : (0 : Int32).toInt = 0)] at ha hb_ c_5; simp only [rg]; omega
    refine lv_iconst (v := 0) hx hb dX0_canLead_31 (by decide) ?_
    have hP9 := hP.sub (ws' := [(h0, .inr (0, [.ref h1, .ref h2, .ref h3, .ref h4, .ref h5, .ref h6, .int a0, .int x_3, .int a2, .int a3])), (h1, .inl (cI, 2520, .inl g0)), (h3, .inl (cI, 2520, .inl f_4))]) [0, 1, 2] rfl
    have hD9 := hD.sub (ws' := [(h0, .inr (0, [.ref h1, .ref h2, .ref h3, .ref h4, .ref h5, .ref h6, .int a0, .int x_3, .int a2, .int a3])), (h1, .inl (cI, 2520, .inl g0)), (h3, .inl (cI, 2520, .inl f_4))]) [0, 1, 2] (by decide) rfl
    exact W.zret (v := 0) hx hb hr (rfl) (fun t ht hW => ⟨⟨0, (), rfl, (rg_mono (rg_k (x := 0) (c := 0) (by decide)) (by decide) (by decide)), ⟨x_3, f_4, (rg_mono h_6 (by decide) (by decide)), by rw [ht]; exact hP9, hD9⟩⟩, hS.F ht⟩) hS.2.2 dX0_canLead_32
  · skip
    have h_7 : rg (1) (2520) x_3 := by have ha := hx_3; have hb_ := (rg_k (x := 0) (c := 0) (by decide)); simp only [rg, fa_lt, fa_le, fa_eq, (by decide : (0 : Int32).toInt = 0)] at ha hb_ c_5; simp only [rg]; omega
    refine lv_iload_n hx hb dX0_canLead_15 rfl (lv_at hl 2 rfl) ?_
    refine lv_iconst (v := 2) hx hb dX0_canLead_16 (by decide) ?_
    refine lv_icmp_eq (tgt := 27) hx hb dX0_canLead_17 (by decide) (fun c_8 => ?_) (fun c_8 => ?_)
    · skip
      have h_9 : rg (2) (2) p1 := by have ha := (rg_any p1); have hb_ := (rg_k (x := 2) (c := 2) (by decide)); simp only [rg, fa_lt, fa_le, fa_eq, (by decide : (2 : Int32).toInt = 2)] at ha hb_ c_8; simp only [rg]; omega
      refine lv_iconst (v := 1) hx hb dX0_canLead_27 (by decide) ?_
      refine lv_goto (tgt := 32) hx hb dX0_canLead_28 (by decide) ?_
      have hP9 := hP.sub (ws' := [(h0, .inr (0, [.ref h1, .ref h2, .ref h3, .ref h4, .ref h5, .ref h6, .int a0, .int x_3, .int a2, .int a3])), (h1, .inl (cI, 2520, .inl g0)), (h3, .inl (cI, 2520, .inl f_4))]) [0, 1, 2] rfl
      have hD9 := hD.sub (ws' := [(h0, .inr (0, [.ref h1, .ref h2, .ref h3, .ref h4, .ref h5, .ref h6, .int a0, .int x_3, .int a2, .int a3])), (h1, .inl (cI, 2520, .inl g0)), (h3, .inl (cI, 2520, .inl f_4))]) [0, 1, 2] (by decide) rfl
      exact W.zret (v := 1) hx hb hr (rfl) (fun t ht hW => ⟨⟨1, (), rfl, (rg_mono (rg_k (x := 1) (c := 1) (by decide)) (by decide) (by decide)), ⟨x_3, f_4, (rg_mono h_7 (by decide) (by decide)), by rw [ht]; exact hP9, hD9⟩⟩, hS.F ht⟩) hS.2.2 dX0_canLead_32
    · skip
      refine lv_aload_n hx hb dX0_canLead_20 rfl (lv_at hl 0 rfl) ?_
      have hPc := hP.sub (ws' := [(h0, .inr (0, [.ref h1, .ref h2, .ref h3, .ref h4, .ref h5, .ref h6, .int a0, .int x_3, .int a2, .int a3])), (h3, .inl (cI, 2520, .inl f_4))]) [0, 2] rfl
      have hDc := hD.sub (ws' := [(h0, .inr (0, [.ref h1, .ref h2, .ref h3, .ref h4, .ref h5, .ref h6, .int a0, .int x_3, .int a2, .int a3])), (h3, .inl (cI, 2520, .inl f_4))]) [0, 2] (by decide) rfl
      have hFc := va_free (wc := [(h0, .inr (0, [.ref h1, .ref h2, .ref h3, .ref h4, .ref h5, .ref h6, .int a0, .int x_3, .int a2, .int a3])), (h3, .inl (cI, 2520, .inl f_4))]) hD hS hA [0, 2] rfl
      refine va_calli (va_runV (As := []) (rest := []) ⟨hx, hb, hml, hown, hts⟩ (c_s_X0_hasPairApart l dC dI cB cI cJ cZ cP h0 h1 h2 h3 f_4 h4 h5 h6 a0 x_3 (rg_mono h_7 (by decide) (by decide)) a2 a3 H.size) (cwV 0 hts (gd_V (List.mem_of_getElem? (i := 6) rfl) (List.mem_of_getElem? (i := 7) rfl) (List.mem_of_getElem? (i := 8) rfl) (List.mem_of_getElem? (i := 4) rfl) (gd_mono k_s_X0_hasPairApart (fun _ h => List.mem_cons_of_mem _ (List.mem_append_right _ (List.mem_append_right _ (List.mem_append_right _ (List.mem_append_left _ h))))))) rfl rfl rfl (by decide +kernel) ⟨Nat.le_of_ble_eq_true rfl, Nat.le_of_ble_eq_true rfl⟩) ⟨fun a U g mk q => by obtain ⟨q0, q1, qP, qK, qD⟩ := q; exact ⟨q0, q1, qP, va_K.moved (u := U) (U := U.calling g mk a) (Vm.Alike.refl U.vm) qK, qD⟩, va_recv hK hPc (ci := 0) (q0 := 0) rfl rfl, fun U hU hW => ⟨rfl, by rw [hU], by rw [hU]; exact hPc, va_K.moved hW.alike hK, hDc.weaken (fun _ _ _ _ => trivial)⟩⟩ rfl rfl hl.1 rfl (lv_room (Nat.le_of_ble_eq_true rfl)) dX0_canLead_21 ⟨Nat.le_of_ble_eq_true rfl, Nat.le_of_ble_eq_true rfl⟩) hS (fun q _ h => hFc q h) hFc (fun r_10 u t H1 locs ht hvm hw hB hz1 hk1 hS => ?_)
      obtain ⟨hP1, hD1⟩ := hB
      rw [ht] at hP1
      obtain ⟨hP, hD⟩ := va_join (wr := [(h1, .inl (cI, 2520, .inl g0))]) (w1 := [(h0, .inr (0, [.ref h1, .ref h2, .ref h3, .ref h4, .ref h5, .ref h6, .int a0, .int x_3, .int a2, .int a3])), (h3, .inl (cI, 2520, .inl f_4))]) hP hD [0, 2] [1] rfl rfl (by decide) (by decide) hk1 hFc hP1 hD1
      generalize H1 = H at hP hS ⊢
      replace hP : va_P (dC, dI) vwCl [(h1, .inl (cI, 2520, .inl g0)), (h0, .inr (0, [.ref h1, .ref h2, .ref h3, .ref h4, .ref h5, .ref h6, .int a0, .int x_3, .int a2, .int a3])), (h3, .inl (cI, 2520, .inl f_4))] H := hP
      replace hD : va_D A [(h1, .inl (cI, 2520, .inl g0)), (h0, .inr (0, [.ref h1, .ref h2, .ref h3, .ref h4, .ref h5, .ref h6, .int a0, .int x_3, .int a2, .int a3])), (h3, .inl (cI, 2520, .inl f_4))] := hD
      have hr_10 : rg (0) (1) r_10 := hw
      refine lv_if_eq (tgt := 31) hx hb dX0_canLead_24 (by decide) (fun c_11 => ?_) (fun c_11 => ?_)
      · skip
        have h_12 : rg (0) (0) r_10 := by have ha := hr_10; have hb_ := (rg_k (x := 0) (c := 0) (by decide)); simp only [rg, fa_lt, fa_le, fa_eq, (by decide : (0 : Int32).toInt = 0)] at ha hb_ c_11; simp only [rg]; omega
        refine lv_iconst (v := 0) hx hb dX0_canLead_31 (by decide) ?_
        have hP9 := hP.sub (ws' := [(h0, .inr (0, [.ref h1, .ref h2, .ref h3, .ref h4, .ref h5, .ref h6, .int a0, .int x_3, .int a2, .int a3])), (h1, .inl (cI, 2520, .inl g0)), (h3, .inl (cI, 2520, .inl f_4))]) [1, 0, 2] rfl
        have hD9 := hD.sub (ws' := [(h0, .inr (0, [.ref h1, .ref h2, .ref h3, .ref h4, .ref h5, .ref h6, .int a0, .int x_3, .int a2, .int a3])), (h1, .inl (cI, 2520, .inl g0)), (h3, .inl (cI, 2520, .inl f_4))]) [1, 0, 2] (by decide) rfl
        exact W.zret (v := 0) hx hb hr (rfl) (fun t ht hW => ⟨⟨0, (), rfl, (rg_mono (rg_k (x := 0) (c := 0) (by decide)) (by decide) (by decide)), ⟨x_3, f_4, (rg_mono h_7 (by decide) (by decide)), by rw [ht]; exact hP9, hD9⟩⟩, hS.F ht⟩) hS.2.2 dX0_canLead_32
      · skip
        have h_13 : rg (1) (1) r_10 := by have ha := hr_10; have hb_ := (rg_k (x := 0) (c := 0) (by decide)); simp only [rg, fa_lt, fa_le, fa_eq, (by decide : (0 : Int32).toInt = 0)] at ha hb_ c_11; simp only [rg]; omega
        refine lv_iconst (v := 1) hx hb dX0_canLead_27 (by decide) ?_
        refine lv_goto (tgt := 32) hx hb dX0_canLead_28 (by decide) ?_
        have hP9 := hP.sub (ws' := [(h0, .inr (0, [.ref h1, .ref h2, .ref h3, .ref h4, .ref h5, .ref h6, .int a0, .int x_3, .int a2, .int a3])), (h1, .inl (cI, 2520, .inl g0)), (h3, .inl (cI, 2520, .inl f_4))]) [1, 0, 2] rfl
        have hD9 := hD.sub (ws' := [(h0, .inr (0, [.ref h1, .ref h2, .ref h3, .ref h4, .ref h5, .ref h6, .int a0, .int x_3, .int a2, .int a3])), (h1, .inl (cI, 2520, .inl g0)), (h3, .inl (cI, 2520, .inl f_4))]) [1, 0, 2] (by decide) rfl
        exact W.zret (v := 1) hx hb hr (rfl) (fun t ht hW => ⟨⟨1, (), rfl, (rg_mono (rg_k (x := 1) (c := 1) (by decide)) (by decide) (by decide)), ⟨x_3, f_4, (rg_mono h_7 (by decide) (by decide)), by rw [ht]; exact hP9, hD9⟩⟩, hS.F ht⟩) hS.2.2 dX0_canLead_32
def v_s_X0_put : List Cond := Cond.code yX0_put cX0_put 5 none :: ([Cond.constant RX0 95 (-1640531535), Cond.fieldLink RX0 21 "MayRings$Families" "slots" "[I", Cond.fieldLink RX0 30 "MayRings$Families" "count" "I", Cond.fieldLink RX0 11 "MayRings$Families" "sets" "[I", Cond.fieldLink RX0 15 "MayRings$Families" "orders" "[I", Cond.fieldLink RX0 40 "MayRings$Families" "union" "I"] ++ (wsX00 ++ ([])))
theorem k_s_X0_put : GoodIn lw_tbl v_s_X0_put := gd_c (List.mem_of_getElem? (i := 1046) (by decide +kernel)) rfl (goodIn_app (gd_c (List.mem_of_getElem? (i := 1047) (by decide +kernel)) rfl (gd_c (List.mem_of_getElem? (i := 503) (by decide +kernel)) rfl (gd_c (List.mem_of_getElem? (i := 506) (by decide +kernel)) rfl (gd_c (List.mem_of_getElem? (i := 500) (by decide +kernel)) rfl (gd_c (List.mem_of_getElem? (i := 501) (by decide +kernel)) rfl (gd_c (List.mem_of_getElem? (i := 509) (by decide +kernel)) rfl (gd_nil))))))) (goodIn_app kfX0 (gd_nil)))
set_option maxHeartbeats 2000000 in
set_option maxRecDepth 100000 in
theorem c_s_X0_put (l : Launch) (dC : Nat → ClassId) (dI : Nat → Nat → Nat) (cB cI cJ cZ cP : ClassId) (h0 : Nat) (h1 : Nat) (g0 : Nat → Int32) (h2 : Nat) (g1 : Nat → Int32) (h3 : Nat) (h4 : Nat) (g3 : Nat → Int32) (h5 : Nat) (h6 : Nat) (a0 : Int32) (ha0 : rg (0) (2520) a0) (a1 : Int32) (a2 : Int32) (a3 : Int32) (p0 : Int32) (p1 : Int32) (kr0 : nbA g1) (kr1 : nb p1) (sz : Nat) : Met l yX0_put v_s_X0_put ({ frames := 0, cells := 0, slots := 0, locals := 0 }) (va_Pc [.ref h0, .int p0, .int p1] (fun U => U.heap.size = sz ∧ va_P (dC, dI) vwCl [(h0, .inr (0, [.ref h1, .ref h2, .ref h3, .ref h4, .ref h5, .ref h6, .int a0, .int a1, .int a2, .int a3])), (h1, .inl (cI, 2520, .inl g0)), (h2, .inl (cI, 2520, .inl g1)), (h4, .inl (cI, 4096, .inl g3))] U.heap ∧ va_K (dC, dI) vwCl (ty5 cB cI cJ cZ cP) U ∧ va_D (fun _ => True) [(h0, .inr (0, [.ref h1, .ref h2, .ref h3, .ref h4, .ref h5, .ref h6, .int a0, .int a1, .int a2, .int a3])), (h1, .inl (cI, 2520, .inl g0)), (h2, .inl (cI, 2520, .inl g1)), (h4, .inl (cI, 4096, .inl g3))])) (va_Qv (fun _ : Unit => True) (fun _ t => ∃ (z0 : Int32) (z1 : Int32) (z2 : Nat → Int32) (z3 : Nat → Int32) (z4 : Nat → Int32), rg (0) (2520) z0 ∧ (nbA z3) ∧ va_P (dC, dI) vwCl [(h0, .inr (0, [.ref h1, .ref h2, .ref h3, .ref h4, .ref h5, .ref h6, .int z0, .int a1, .int a2, .int z1])), (h1, .inl (cI, 2520, .inl z2)), (h2, .inl (cI, 2520, .inl z3)), (h4, .inl (cI, 4096, .inl z4))] t.heap ∧ va_D (va_A [(h0, .inr (0, [.ref h1, .ref h2, .ref h3, .ref h4, .ref h5, .ref h6, .int a0, .int a1, .int a2, .int a3])), (h1, .inl (cI, 2520, .inl g0)), (h2, .inl (cI, 2520, .inl g1)), (h4, .inl (cI, 4096, .inl g3))] sz) [(h0, .inr (0, [.ref h1, .ref h2, .ref h3, .ref h4, .ref h5, .ref h6, .int z0, .int a1, .int a2, .int z1])), (h1, .inl (cI, 2520, .inl z2)), (h2, .inl (cI, 2520, .inl z3)), (h4, .inl (cI, 4096, .inl z4))]) (va_A [(h0, .inr (0, [.ref h1, .ref h2, .ref h3, .ref h4, .ref h5, .ref h6, .int a0, .int a1, .int a2, .int a3])), (h1, .inl (cI, 2520, .inl g0)), (h2, .inl (cI, 2520, .inl g1)), (h4, .inl (cI, 4096, .inl g3))] sz)) 0 0 (va_A [(h0, .inr (0, [.ref h1, .ref h2, .ref h3, .ref h4, .ref h5, .ref h6, .int a0, .int a1, .int a2, .int a3])), (h1, .inl (cI, 2520, .inl g0)), (h2, .inl (cI, 2520, .inl g1)), (h4, .inl (cI, 4096, .inl g3))] sz) := by
  refine Met.ofW (cc := cX0_put) (maxL := 5) (ret := none) (by decide) rfl ?_
  intro p e s m args below meth c s₁ B hml hv
  obtain ⟨rfl, hsz, hP, hK, hD0⟩ := hv
  have hx := B.exec
  have hb := B.bytes
  have hr := B.returns
  have hts := atoms_spec (ws := v_s_X0_put) B.pre
  have hown : s.vm.findClass RX0 = some m.cls := findClass_of_methodNamed B.named
  have hlocks := B.notSynchronized
  have hinX0 : ∀ w ∈ wsX00, w ∈ v_s_X0_put := fun _ h => List.mem_cons_of_mem _ (List.mem_append_right _ (List.mem_append_left _ h))
  subst hsz
  have hD := hD0.self (sz := s.heap.size)
  generalize hAe : va_A [(h0, .inr (0, [.ref h1, .ref h2, .ref h3, .ref h4, .ref h5, .ref h6, .int a0, .int a1, .int a2, .int a3])), (h1, .inl (cI, 2520, .inl g0)), (h2, .inl (cI, 2520, .inl g1)), (h4, .inl (cI, 4096, .inl g3))] s.heap.size = A at hD ⊢
  have hA : ∀ q : Nat, s.heap.size ≤ q → A q := fun q h => by rw [← hAe]; exact Or.inr h
  have hP : va_P (dC, dI) vwCl [(h0, .inr (0, [.ref h1, .ref h2, .ref h3, .ref h4, .ref h5, .ref h6, .int a0, .int a1, .int a2, .int a3])), (h1, .inl (cI, 2520, .inl g0)), (h2, .inl (cI, 2520, .inl g1)), (h4, .inl (cI, 4096, .inl g3))] s.heap := hP
  have hl := lv_entry ([.ref h0, .int p0, .int p1]) (n := 5) (Nat.le_of_ble_eq_true rfl)
  rw [lg_entry_eq]
  generalize (lg_sl ([.ref h0, .int p0, .int p1]) ++ List.replicate (5 - (lg_sl ([.ref h0, .int p0, .int p1])).length) Slot.unset).toArray = ls at hl ⊢
  have hl : lv_has ls 5 [(0, .ref h0), (1, .int p0), (2, .int p1)] := hl
  refine W_gen (A := A) hP (fun H locs hP hS => ?_)
  refine lv_iload_n hx hb dX0_put_0 rfl (lv_at hl 1 rfl) ?_
  refine lv_ldc (v := (-1640531535)) hx hb hown (hts (.constant RX0 95 (-1640531535)) (List.mem_of_getElem? (i := 1) rfl)) dX0_put_1 ?_
  refine lv_imul hx hb dX0_put_3 ?_
  refine lv_topi (fun x_1 ex_1 => ?_)
  refine lv_bipush (v := 20) hx hb dX0_put_4 (by decide) ?_
  refine lv_iushr hx hb dX0_put_6 rfl ?_
  refine lv_topi (fun x_2 ex_2 => ?_)
  have hx_2 : rg (0) (4095) x_2 := by rw [ex_2]; exact rg_mono (rg_ushr 20 (by decide) (by decide)) (by decide) (by decide)
  refine lv_istore_n (lv' := [(3, .int x_2), (0, .ref h0), (1, .int p0), (2, .int p1)]) hx hb dX0_put_7 rfl hl (by decide) rfl (fun ls hl => ?_)
  refine lv_iconst (v := 0) hx hb dX0_put_8 (by decide) ?_
  refine lv_istore (lv' := [(4, .int 0), (3, .int x_2), (0, .ref h0), (1, .int p0), (2, .int p1)]) hx hb dX0_put_9 hl (by decide) rfl (fun ls hl => ?_)
  refine W_loopM (σ := Int32 × Int32) (fun u H locs ls => va_P (dC, dI) vwCl [(h0, .inr (0, [.ref h1, .ref h2, .ref h3, .ref h4, .ref h5, .ref h6, .int a0, .int a1, .int a2, .int a3])), (h1, .inl (cI, 2520, .inl g0)), (h2, .inl (cI, 2520, .inl g1)), (h4, .inl (cI, 4096, .inl g3))] H ∧ va_D A [(h0, .inr (0, [.ref h1, .ref h2, .ref h3, .ref h4, .ref h5, .ref h6, .int a0, .int a1, .int a2, .int a3])), (h1, .inl (cI, 2520, .inl g0)), (h2, .inl (cI, 2520, .inl g1)), (h4, .inl (cI, 4096, .inl g3))] ∧ va_S A s.heap H locs ∧ lv_has ls 5 [(4, .int u.1), (3, .int u.2), (0, .ref h0), (1, .int p0), (2, .int p1)] ∧ rg (0) (4096) u.1 ∧ rg (0) (4095) u.2) (fun u => ((4096) - u.1.toInt).toNat) 11 [] ?_ (0, x_2) H locs ls ⟨hP, hD, hS, hl, (rg_mono (rg_k (x := 0) (c := 0) (by decide)) (by decide) (by decide)), (rg_mono hx_2 (by decide) (by decide))⟩
  rintro ⟨x_859, x_860⟩ H locs ls ⟨hP, hD, hS, hl, hx_859, hx_860⟩ ih_890
  replace hP : va_P (dC, dI) vwCl [(h0, .inr (0, [.ref h1, .ref h2, .ref h3, .ref h4, .ref h5, .ref h6, .int a0, .int a1, .int a2, .int a3])), (h1, .inl (cI, 2520, .inl g0)), (h2, .inl (cI, 2520, .inl g1)), (h4, .inl (cI, 4096, .inl g3))] H := hP
  replace hD : va_D A [(h0, .inr (0, [.ref h1, .ref h2, .ref h3, .ref h4, .ref h5, .ref h6, .int a0, .int a1, .int a2, .int a3])), (h1, .inl (cI, 2520, .inl g0)), (h2, .inl (cI, 2520, .inl g1)), (h4, .inl (cI, 4096, .inl g3))] := hD
  replace hl : lv_has ls 5 [(4, .int x_859), (3, .int x_860), (0, .ref h0), (1, .int p0), (2, .int p1)] := hl
  replace hx_859 : rg (0) (4096) x_859 := hx_859
  replace hx_860 : rg (0) (4095) x_860 := hx_860
  refine lv_iload hx hb dX0_put_11 (lv_at hl 0 rfl) ?_
  refine lv_sipush (v := 4096) hx hb dX0_put_13 (by decide) ?_
  refine lv_icmp_ge (tgt := 55) hx hb dX0_put_16 (by decide) (fun c_891 => ?_) (fun c_891 => ?_)
  · skip
    have h_892 : rg (4096) (4096) x_859 := by have ha := hx_859; have hb_ := (rg_k (x := 4096) (c := 4096) (by decide)); simp only [rg, fa_lt, fa_le, fa_eq, (by decide : (4096 : Int32).toInt = 4096)] at ha hb_ c_891; simp only [rg]; omega
    refine lv_aload_n hx hb dX0_put_55 rfl (lv_at hl 2 rfl) ?_
    refine va_get (D := (dC, dI)) (ci := 0) (v := .ref h4) (C := RX0) (T := TX0) (N := 10) hx hb hts hinX0 hown hK hP 0 rfl rfl 3 (by decide) (hts (.fieldLink RX0 21 "MayRings$Families" "slots" "[I") (List.mem_of_getElem? (i := 2) rfl)) (fun _ h9 => h9) rfl dX0_put_56 ?_
    refine lv_iload_n hx hb dX0_put_59 rfl (lv_at hl 1 rfl) ?_
    refine lv_iload_n hx hb dX0_put_60 rfl (lv_at hl 3 rfl) ?_
    refine lv_iconst (v := 1) hx hb dX0_put_61 (by decide) ?_
    refine lv_iadd hx hb dX0_put_62 ?_
    refine lv_topi (fun x_893 ex_893 => ?_)
    refine va_iast hx hb hK hP hD hS 3 1 rfl rfl (rg_in (n := 4096) (rg_mono hx_860 (by decide) (by decide))) dX0_put_63 (fun H locs hP hD hS => ?_)
    obtain ⟨f_894, ef_894⟩ : ∃ f : Nat → Int32, f = upd g3 (x_860 : Int32).toNatClampNeg x_893 := ⟨_, rfl⟩
    rw [← ef_894] at hP hD
    clear ef_894
    replace hP : va_P (dC, dI) vwCl [(h0, .inr (0, [.ref h1, .ref h2, .ref h3, .ref h4, .ref h5, .ref h6, .int a0, .int a1, .int a2, .int a3])), (h1, .inl (cI, 2520, .inl g0)), (h2, .inl (cI, 2520, .inl g1)), (h4, .inl (cI, 4096, .inl f_894))] H := hP
    replace hD : va_D A [(h0, .inr (0, [.ref h1, .ref h2, .ref h3, .ref h4, .ref h5, .ref h6, .int a0, .int a1, .int a2, .int a3])), (h1, .inl (cI, 2520, .inl g0)), (h2, .inl (cI, 2520, .inl g1)), (h4, .inl (cI, 4096, .inl f_894))] := hD
    refine lv_aload_n hx hb dX0_put_64 rfl (lv_at hl 2 rfl) ?_
    refine va_get (D := (dC, dI)) (ci := 0) (v := .int a0) (C := RX0) (T := TX0) (N := 10) hx hb hts hinX0 hown hK hP 0 rfl rfl 6 (by decide) (hts (.fieldLink RX0 30 "MayRings$Families" "count" "I") (List.mem_of_getElem? (i := 3) rfl)) (fun _ h9 => h9) rfl dX0_put_65 ?_
    refine lv_sipush (v := 2520) hx hb dX0_put_68 (by decide) ?_
    refine lv_icmp_ge (tgt := 114) hx hb dX0_put_71 (by decide) (fun c_895 => ?_) (fun c_895 => ?_)
    · skip
      have h_896 : rg (2520) (2520) a0 := by have ha := ha0; have hb_ := (rg_k (x := 2520) (c := 2520) (by decide)); simp only [rg, fa_lt, fa_le, fa_eq, (by decide : (2520 : Int32).toInt = 2520)] at ha hb_ c_895; simp only [rg]; omega
      have hP9 := hP.sub (ws' := [(h0, .inr (0, [.ref h1, .ref h2, .ref h3, .ref h4, .ref h5, .ref h6, .int a0, .int a1, .int a2, .int a3])), (h1, .inl (cI, 2520, .inl g0)), (h2, .inl (cI, 2520, .inl g1)), (h4, .inl (cI, 4096, .inl f_894))]) [0, 1, 2, 3] rfl
      have hD9 := hD.sub (ws' := [(h0, .inr (0, [.ref h1, .ref h2, .ref h3, .ref h4, .ref h5, .ref h6, .int a0, .int a1, .int a2, .int a3])), (h1, .inl (cI, 2520, .inl g0)), (h2, .inl (cI, 2520, .inl g1)), (h4, .inl (cI, 4096, .inl f_894))]) [0, 1, 2, 3] (by decide) rfl
      exact W.vret hx hb hr (fun t ht hW => ⟨⟨(), rfl, trivial, ⟨a0, a3, g0, g1, f_894, (rg_mono h_896 (by decide) (by decide)), kr0, by rw [ht]; exact hP9, hD9⟩⟩, hS.F ht⟩) hS.2.2 dX0_put_114
    · skip
      have h_897 : rg (0) (2519) a0 := by have ha := ha0; have hb_ := (rg_k (x := 2520) (c := 2520) (by decide)); simp only [rg, fa_lt, fa_le, fa_eq, (by decide : (2520 : Int32).toInt = 2520)] at ha hb_ c_895; simp only [rg]; omega
      refine lv_aload_n hx hb dX0_put_74 rfl (lv_at hl 2 rfl) ?_
      refine va_get (D := (dC, dI)) (ci := 0) (v := .ref h1) (C := RX0) (T := TX0) (N := 10) hx hb hts hinX0 hown hK hP 0 rfl rfl 0 (by decide) (hts (.fieldLink RX0 11 "MayRings$Families" "sets" "[I") (List.mem_of_getElem? (i := 4) rfl)) (fun _ h9 => h9) rfl dX0_put_75 ?_
      refine lv_aload_n hx hb dX0_put_78 rfl (lv_at hl 2 rfl) ?_
      refine va_get (D := (dC, dI)) (ci := 0) (v := .int a0) (C := RX0) (T := TX0) (N := 10) hx hb hts hinX0 hown hK hP 0 rfl rfl 6 (by decide) (hts (.fieldLink RX0 30 "MayRings$Families" "count" "I") (List.mem_of_getElem? (i := 3) rfl)) (fun _ h9 => h9) rfl dX0_put_79 ?_
      refine lv_iload_n hx hb dX0_put_82 rfl (lv_at hl 3 rfl) ?_
      refine va_iast hx hb hK hP hD hS 1 1 rfl rfl (rg_in (n := 2520) (rg_mono h_897 (by decide) (by decide))) dX0_put_83 (fun H locs hP hD hS => ?_)
      obtain ⟨f_898, ef_898⟩ : ∃ f : Nat → Int32, f = upd g0 (a0 : Int32).toNatClampNeg p0 := ⟨_, rfl⟩
      rw [← ef_898] at hP hD
      clear ef_898
      replace hP : va_P (dC, dI) vwCl [(h0, .inr (0, [.ref h1, .ref h2, .ref h3, .ref h4, .ref h5, .ref h6, .int a0, .int a1, .int a2, .int a3])), (h1, .inl (cI, 2520, .inl f_898)), (h2, .inl (cI, 2520, .inl g1)), (h4, .inl (cI, 4096, .inl f_894))] H := hP
      replace hD : va_D A [(h0, .inr (0, [.ref h1, .ref h2, .ref h3, .ref h4, .ref h5, .ref h6, .int a0, .int a1, .int a2, .int a3])), (h1, .inl (cI, 2520, .inl f_898)), (h2, .inl (cI, 2520, .inl g1)), (h4, .inl (cI, 4096, .inl f_894))] := hD
      refine lv_aload_n hx hb dX0_put_84 rfl (lv_at hl 2 rfl) ?_
      refine va_get (D := (dC, dI)) (ci := 0) (v := .ref h2) (C := RX0) (T := TX0) (N := 10) hx hb hts hinX0 hown hK hP 0 rfl rfl 1 (by decide) (hts (.fieldLink RX0 15 "MayRings$Families" "orders" "[I") (List.mem_of_getElem? (i := 5) rfl)) (fun _ h9 => h9) rfl dX0_put_85 ?_
      refine lv_aload_n hx hb dX0_put_88 rfl (lv_at hl 2 rfl) ?_
      refine va_get (D := (dC, dI)) (ci := 0) (v := .int a0) (C := RX0) (T := TX0) (N := 10) hx hb hts hinX0 hown hK hP 0 rfl rfl 6 (by decide) (hts (.fieldLink RX0 30 "MayRings$Families" "count" "I") (List.mem_of_getElem? (i := 3) rfl)) (fun _ h9 => h9) rfl dX0_put_89 ?_
      refine lv_iload_n hx hb dX0_put_92 rfl (lv_at hl 4 rfl) ?_
      refine va_iast hx hb hK hP hD hS 2 1 rfl rfl (rg_in (n := 2520) (rg_mono h_897 (by decide) (by decide))) dX0_put_93 (fun H locs hP hD hS => ?_)
      obtain ⟨f_899, ef_899⟩ : ∃ f : Nat → Int32, f = upd g1 (a0 : Int32).toNatClampNeg p1 := ⟨_, rfl⟩
      rw [← ef_899] at hP hD
      replace hP : va_P (dC, dI) vwCl [(h0, .inr (0, [.ref h1, .ref h2, .ref h3, .ref h4, .ref h5, .ref h6, .int a0, .int a1, .int a2, .int a3])), (h1, .inl (cI, 2520, .inl f_898)), (h2, .inl (cI, 2520, .inl f_899)), (h4, .inl (cI, 4096, .inl f_894))] H := hP
      replace hD : va_D A [(h0, .inr (0, [.ref h1, .ref h2, .ref h3, .ref h4, .ref h5, .ref h6, .int a0, .int a1, .int a2, .int a3])), (h1, .inl (cI, 2520, .inl f_898)), (h2, .inl (cI, 2520, .inl f_899)), (h4, .inl (cI, 4096, .inl f_894))] := hD
      refine lv_aload_n hx hb dX0_put_94 rfl (lv_at hl 2 rfl) ?_
      refine lv_dup hx hb dX0_put_95 rfl ?_
      refine va_get (D := (dC, dI)) (ci := 0) (v := .int a0) (C := RX0) (T := TX0) (N := 10) hx hb hts hinX0 hown hK hP 0 rfl rfl 6 (by decide) (hts (.fieldLink RX0 30 "MayRings$Families" "count" "I") (List.mem_of_getElem? (i := 3) rfl)) (fun _ h9 => h9) rfl dX0_put_96 ?_
      refine lv_iconst (v := 1) hx hb dX0_put_99 (by decide) ?_
      refine lv_iadd hx hb dX0_put_100 ?_
      refine lv_topi (fun x_900 ex_900 => ?_)
      have hx_900 : rg (1) (2520) x_900 := by rw [ex_900]; exact rg_mono (rg_add h_897 (rg_k (x := 1) (c := 1) (by decide)) (by decide) (by decide)) (by decide) (by decide)
      have qx_900 : x_900.toInt = a0.toInt + (1) := by rw [ex_900]; exact rg_addE h_897 (rg_k (x := 1) (c := 1) (by decide)) (by decide) (by decide) trivial
      refine va_put (D := (dC, dI)) (ci := 0) (v := .int x_900) (ty := .int) (C := RX0) (T := TX0) (N := 10) hx hb hts hinX0 tyX0 tyX0_ok nmX0 hown hK hP hD hS 0 rfl rfl 6 (by decide) (hts (.fieldLink RX0 30 "MayRings$Families" "count" "I") (List.mem_of_getElem? (i := 3) rfl)) (fun _ h9 => h9) rfl (by decide +kernel) (rfl) (rfl) (Nat.le_of_ble_eq_true rfl) dX0_put_101 (fun H locs hP hD hS => ?_)
      replace hP : va_P (dC, dI) vwCl [(h0, .inr (0, [.ref h1, .ref h2, .ref h3, .ref h4, .ref h5, .ref h6, .int x_900, .int a1, .int a2, .int a3])), (h1, .inl (cI, 2520, .inl f_898)), (h2, .inl (cI, 2520, .inl f_899)), (h4, .inl (cI, 4096, .inl f_894))] H := hP
      replace hD : va_D A [(h0, .inr (0, [.ref h1, .ref h2, .ref h3, .ref h4, .ref h5, .ref h6, .int x_900, .int a1, .int a2, .int a3])), (h1, .inl (cI, 2520, .inl f_898)), (h2, .inl (cI, 2520, .inl f_899)), (h4, .inl (cI, 4096, .inl f_894))] := hD
      refine lv_aload_n hx hb dX0_put_104 rfl (lv_at hl 2 rfl) ?_
      refine lv_dup hx hb dX0_put_105 rfl ?_
      refine va_get (D := (dC, dI)) (ci := 0) (v := .int a3) (C := RX0) (T := TX0) (N := 10) hx hb hts hinX0 hown hK hP 0 rfl rfl 9 (by decide) (hts (.fieldLink RX0 40 "MayRings$Families" "union" "I") (List.mem_of_getElem? (i := 6) rfl)) (fun _ h9 => h9) rfl dX0_put_106 ?_
      refine lv_iload_n hx hb dX0_put_109 rfl (lv_at hl 3 rfl) ?_
      refine lv_ior hx hb dX0_put_110 ?_
      refine lv_topi (fun x_901 ex_901 => ?_)
      refine va_put (D := (dC, dI)) (ci := 0) (v := .int x_901) (ty := .int) (C := RX0) (T := TX0) (N := 10) hx hb hts hinX0 tyX0 tyX0_ok nmX0 hown hK hP hD hS 0 rfl rfl 9 (by decide) (hts (.fieldLink RX0 40 "MayRings$Families" "union" "I") (List.mem_of_getElem? (i := 6) rfl)) (fun _ h9 => h9) rfl (by decide +kernel) (rfl) (rfl) (Nat.le_of_ble_eq_true rfl) dX0_put_111 (fun H locs hP hD hS => ?_)
      replace hP : va_P (dC, dI) vwCl [(h0, .inr (0, [.ref h1, .ref h2, .ref h3, .ref h4, .ref h5, .ref h6, .int x_900, .int a1, .int a2, .int x_901])), (h1, .inl (cI, 2520, .inl f_898)), (h2, .inl (cI, 2520, .inl f_899)), (h4, .inl (cI, 4096, .inl f_894))] H := hP
      replace hD : va_D A [(h0, .inr (0, [.ref h1, .ref h2, .ref h3, .ref h4, .ref h5, .ref h6, .int x_900, .int a1, .int a2, .int x_901])), (h1, .inl (cI, 2520, .inl f_898)), (h2, .inl (cI, 2520, .inl f_899)), (h4, .inl (cI, 4096, .inl f_894))] := hD
      have hP9 := hP.sub (ws' := [(h0, .inr (0, [.ref h1, .ref h2, .ref h3, .ref h4, .ref h5, .ref h6, .int x_900, .int a1, .int a2, .int x_901])), (h1, .inl (cI, 2520, .inl f_898)), (h2, .inl (cI, 2520, .inl f_899)), (h4, .inl (cI, 4096, .inl f_894))]) [0, 1, 2, 3] rfl
      have hD9 := hD.sub (ws' := [(h0, .inr (0, [.ref h1, .ref h2, .ref h3, .ref h4, .ref h5, .ref h6, .int x_900, .int a1, .int a2, .int x_901])), (h1, .inl (cI, 2520, .inl f_898)), (h2, .inl (cI, 2520, .inl f_899)), (h4, .inl (cI, 4096, .inl f_894))]) [0, 1, 2, 3] (by decide) rfl
      exact W.vret hx hb hr (fun t ht hW => ⟨⟨(), rfl, trivial, ⟨x_900, x_901, f_898, f_899, f_894, (rg_mono hx_900 (by decide) (by decide)), (show nbA f_899 from nbA_upd kr0 kr1 ef_899), by rw [ht]; exact hP9, hD9⟩⟩, hS.F ht⟩) hS.2.2 dX0_put_114
  · skip
    have h_902 : rg (0) (4095) x_859 := by have ha := hx_859; have hb_ := (rg_k (x := 4096) (c := 4096) (by decide)); simp only [rg, fa_lt, fa_le, fa_eq, (by decide : (4096 : Int32).toInt = 4096)] at ha hb_ c_891; simp only [rg]; omega
    refine lv_aload_n hx hb dX0_put_19 rfl (lv_at hl 2 rfl) ?_
    refine va_get (D := (dC, dI)) (ci := 0) (v := .ref h4) (C := RX0) (T := TX0) (N := 10) hx hb hts hinX0 hown hK hP 0 rfl rfl 3 (by decide) (hts (.fieldLink RX0 21 "MayRings$Families" "slots" "[I") (List.mem_of_getElem? (i := 2) rfl)) (fun _ h9 => h9) rfl dX0_put_20 ?_
    refine lv_iload_n hx hb dX0_put_23 rfl (lv_at hl 1 rfl) ?_
    refine va_iald hx hb hK hP 3 1 rfl rfl (rg_in (n := 4096) (rg_mono hx_860 (by decide) (by decide))) dX0_put_24 ?_
    refine lv_topi (fun x_903 ex_903 => ?_)
    refine lv_if_eq (tgt := 55) hx hb dX0_put_25 (by decide) (fun c_904 => ?_) (fun c_904 => ?_)
    · skip
      have h_905 : rg (0) (0) x_903 := by have ha := (rg_any x_903); have hb_ := (rg_k (x := 0) (c := 0) (by decide)); simp only [rg, fa_lt, fa_le, fa_eq, (by decide : (0 : Int32).toInt = 0)] at ha hb_ c_904; simp only [rg]; omega
      refine lv_aload_n hx hb dX0_put_55 rfl (lv_at hl 2 rfl) ?_
      refine va_get (D := (dC, dI)) (ci := 0) (v := .ref h4) (C := RX0) (T := TX0) (N := 10) hx hb hts hinX0 hown hK hP 0 rfl rfl 3 (by decide) (hts (.fieldLink RX0 21 "MayRings$Families" "slots" "[I") (List.mem_of_getElem? (i := 2) rfl)) (fun _ h9 => h9) rfl dX0_put_56 ?_
      refine lv_iload_n hx hb dX0_put_59 rfl (lv_at hl 1 rfl) ?_
      refine lv_iload_n hx hb dX0_put_60 rfl (lv_at hl 3 rfl) ?_
      refine lv_iconst (v := 1) hx hb dX0_put_61 (by decide) ?_
      refine lv_iadd hx hb dX0_put_62 ?_
      refine lv_topi (fun x_906 ex_906 => ?_)
      refine va_iast hx hb hK hP hD hS 3 1 rfl rfl (rg_in (n := 4096) (rg_mono hx_860 (by decide) (by decide))) dX0_put_63 (fun H locs hP hD hS => ?_)
      obtain ⟨f_907, ef_907⟩ : ∃ f : Nat → Int32, f = upd g3 (x_860 : Int32).toNatClampNeg x_906 := ⟨_, rfl⟩
      rw [← ef_907] at hP hD
      clear ef_907
      replace hP : va_P (dC, dI) vwCl [(h0, .inr (0, [.ref h1, .ref h2, .ref h3, .ref h4, .ref h5, .ref h6, .int a0, .int a1, .int a2, .int a3])), (h1, .inl (cI, 2520, .inl g0)), (h2, .inl (cI, 2520, .inl g1)), (h4, .inl (cI, 4096, .inl f_907))] H := hP
      replace hD : va_D A [(h0, .inr (0, [.ref h1, .ref h2, .ref h3, .ref h4, .ref h5, .ref h6, .int a0, .int a1, .int a2, .int a3])), (h1, .inl (cI, 2520, .inl g0)), (h2, .inl (cI, 2520, .inl g1)), (h4, .inl (cI, 4096, .inl f_907))] := hD
      refine lv_aload_n hx hb dX0_put_64 rfl (lv_at hl 2 rfl) ?_
      refine va_get (D := (dC, dI)) (ci := 0) (v := .int a0) (C := RX0) (T := TX0) (N := 10) hx hb hts hinX0 hown hK hP 0 rfl rfl 6 (by decide) (hts (.fieldLink RX0 30 "MayRings$Families" "count" "I") (List.mem_of_getElem? (i := 3) rfl)) (fun _ h9 => h9) rfl dX0_put_65 ?_
      refine lv_sipush (v := 2520) hx hb dX0_put_68 (by decide) ?_
      refine lv_icmp_ge (tgt := 114) hx hb dX0_put_71 (by decide) (fun c_908 => ?_) (fun c_908 => ?_)
      · skip
        have h_909 : rg (2520) (2520) a0 := by have ha := ha0; have hb_ := (rg_k (x := 2520) (c := 2520) (by decide)); simp only [rg, fa_lt, fa_le, fa_eq, (by decide : (2520 : Int32).toInt = 2520)] at ha hb_ c_908; simp only [rg]; omega
        have hP9 := hP.sub (ws' := [(h0, .inr (0, [.ref h1, .ref h2, .ref h3, .ref h4, .ref h5, .ref h6, .int a0, .int a1, .int a2, .int a3])), (h1, .inl (cI, 2520, .inl g0)), (h2, .inl (cI, 2520, .inl g1)), (h4, .inl (cI, 4096, .inl f_907))]) [0, 1, 2, 3] rfl
        have hD9 := hD.sub (ws' := [(h0, .inr (0, [.ref h1, .ref h2, .ref h3, .ref h4, .ref h5, .ref h6, .int a0, .int a1, .int a2, .int a3])), (h1, .inl (cI, 2520, .inl g0)), (h2, .inl (cI, 2520, .inl g1)), (h4, .inl (cI, 4096, .inl f_907))]) [0, 1, 2, 3] (by decide) rfl
        exact W.vret hx hb hr (fun t ht hW => ⟨⟨(), rfl, trivial, ⟨a0, a3, g0, g1, f_907, (rg_mono h_909 (by decide) (by decide)), kr0, by rw [ht]; exact hP9, hD9⟩⟩, hS.F ht⟩) hS.2.2 dX0_put_114
      · skip
        have h_910 : rg (0) (2519) a0 := by have ha := ha0; have hb_ := (rg_k (x := 2520) (c := 2520) (by decide)); simp only [rg, fa_lt, fa_le, fa_eq, (by decide : (2520 : Int32).toInt = 2520)] at ha hb_ c_908; simp only [rg]; omega
        refine lv_aload_n hx hb dX0_put_74 rfl (lv_at hl 2 rfl) ?_
        refine va_get (D := (dC, dI)) (ci := 0) (v := .ref h1) (C := RX0) (T := TX0) (N := 10) hx hb hts hinX0 hown hK hP 0 rfl rfl 0 (by decide) (hts (.fieldLink RX0 11 "MayRings$Families" "sets" "[I") (List.mem_of_getElem? (i := 4) rfl)) (fun _ h9 => h9) rfl dX0_put_75 ?_
        refine lv_aload_n hx hb dX0_put_78 rfl (lv_at hl 2 rfl) ?_
        refine va_get (D := (dC, dI)) (ci := 0) (v := .int a0) (C := RX0) (T := TX0) (N := 10) hx hb hts hinX0 hown hK hP 0 rfl rfl 6 (by decide) (hts (.fieldLink RX0 30 "MayRings$Families" "count" "I") (List.mem_of_getElem? (i := 3) rfl)) (fun _ h9 => h9) rfl dX0_put_79 ?_
        refine lv_iload_n hx hb dX0_put_82 rfl (lv_at hl 3 rfl) ?_
        refine va_iast hx hb hK hP hD hS 1 1 rfl rfl (rg_in (n := 2520) (rg_mono h_910 (by decide) (by decide))) dX0_put_83 (fun H locs hP hD hS => ?_)
        obtain ⟨f_911, ef_911⟩ : ∃ f : Nat → Int32, f = upd g0 (a0 : Int32).toNatClampNeg p0 := ⟨_, rfl⟩
        rw [← ef_911] at hP hD
        clear ef_911
        replace hP : va_P (dC, dI) vwCl [(h0, .inr (0, [.ref h1, .ref h2, .ref h3, .ref h4, .ref h5, .ref h6, .int a0, .int a1, .int a2, .int a3])), (h1, .inl (cI, 2520, .inl f_911)), (h2, .inl (cI, 2520, .inl g1)), (h4, .inl (cI, 4096, .inl f_907))] H := hP
        replace hD : va_D A [(h0, .inr (0, [.ref h1, .ref h2, .ref h3, .ref h4, .ref h5, .ref h6, .int a0, .int a1, .int a2, .int a3])), (h1, .inl (cI, 2520, .inl f_911)), (h2, .inl (cI, 2520, .inl g1)), (h4, .inl (cI, 4096, .inl f_907))] := hD
        refine lv_aload_n hx hb dX0_put_84 rfl (lv_at hl 2 rfl) ?_
        refine va_get (D := (dC, dI)) (ci := 0) (v := .ref h2) (C := RX0) (T := TX0) (N := 10) hx hb hts hinX0 hown hK hP 0 rfl rfl 1 (by decide) (hts (.fieldLink RX0 15 "MayRings$Families" "orders" "[I") (List.mem_of_getElem? (i := 5) rfl)) (fun _ h9 => h9) rfl dX0_put_85 ?_
        refine lv_aload_n hx hb dX0_put_88 rfl (lv_at hl 2 rfl) ?_
        refine va_get (D := (dC, dI)) (ci := 0) (v := .int a0) (C := RX0) (T := TX0) (N := 10) hx hb hts hinX0 hown hK hP 0 rfl rfl 6 (by decide) (hts (.fieldLink RX0 30 "MayRings$Families" "count" "I") (List.mem_of_getElem? (i := 3) rfl)) (fun _ h9 => h9) rfl dX0_put_89 ?_
        refine lv_iload_n hx hb dX0_put_92 rfl (lv_at hl 4 rfl) ?_
        refine va_iast hx hb hK hP hD hS 2 1 rfl rfl (rg_in (n := 2520) (rg_mono h_910 (by decide) (by decide))) dX0_put_93 (fun H locs hP hD hS => ?_)
        obtain ⟨f_912, ef_912⟩ : ∃ f : Nat → Int32, f = upd g1 (a0 : Int32).toNatClampNeg p1 := ⟨_, rfl⟩
        rw [← ef_912] at hP hD
        replace hP : va_P (dC, dI) vwCl [(h0, .inr (0, [.ref h1, .ref h2, .ref h3, .ref h4, .ref h5, .ref h6, .int a0, .int a1, .int a2, .int a3])), (h1, .inl (cI, 2520, .inl f_911)), (h2, .inl (cI, 2520, .inl f_912)), (h4, .inl (cI, 4096, .inl f_907))] H := hP
        replace hD : va_D A [(h0, .inr (0, [.ref h1, .ref h2, .ref h3, .ref h4, .ref h5, .ref h6, .int a0, .int a1, .int a2, .int a3])), (h1, .inl (cI, 2520, .inl f_911)), (h2, .inl (cI, 2520, .inl f_912)), (h4, .inl (cI, 4096, .inl f_907))] := hD
        refine lv_aload_n hx hb dX0_put_94 rfl (lv_at hl 2 rfl) ?_
        refine lv_dup hx hb dX0_put_95 rfl ?_
        refine va_get (D := (dC, dI)) (ci := 0) (v := .int a0) (C := RX0) (T := TX0) (N := 10) hx hb hts hinX0 hown hK hP 0 rfl rfl 6 (by decide) (hts (.fieldLink RX0 30 "MayRings$Families" "count" "I") (List.mem_of_getElem? (i := 3) rfl)) (fun _ h9 => h9) rfl dX0_put_96 ?_
        refine lv_iconst (v := 1) hx hb dX0_put_99 (by decide) ?_
        refine lv_iadd hx hb dX0_put_100 ?_
        refine lv_topi (fun x_913 ex_913 => ?_)
        have hx_913 : rg (1) (2520) x_913 := by rw [ex_913]; exact rg_mono (rg_add h_910 (rg_k (x := 1) (c := 1) (by decide)) (by decide) (by decide)) (by decide) (by decide)
        have qx_913 : x_913.toInt = a0.toInt + (1) := by rw [ex_913]; exact rg_addE h_910 (rg_k (x := 1) (c := 1) (by decide)) (by decide) (by decide) trivial
        refine va_put (D := (dC, dI)) (ci := 0) (v := .int x_913) (ty := .int) (C := RX0) (T := TX0) (N := 10) hx hb hts hinX0 tyX0 tyX0_ok nmX0 hown hK hP hD hS 0 rfl rfl 6 (by decide) (hts (.fieldLink RX0 30 "MayRings$Families" "count" "I") (List.mem_of_getElem? (i := 3) rfl)) (fun _ h9 => h9) rfl (by decide +kernel) (rfl) (rfl) (Nat.le_of_ble_eq_true rfl) dX0_put_101 (fun H locs hP hD hS => ?_)
        replace hP : va_P (dC, dI) vwCl [(h0, .inr (0, [.ref h1, .ref h2, .ref h3, .ref h4, .ref h5, .ref h6, .int x_913, .int a1, .int a2, .int a3])), (h1, .inl (cI, 2520, .inl f_911)), (h2, .inl (cI, 2520, .inl f_912)), (h4, .inl (cI, 4096, .inl f_907))] H := hP
        replace hD : va_D A [(h0, .inr (0, [.ref h1, .ref h2, .ref h3, .ref h4, .ref h5, .ref h6, .int x_913, .int a1, .int a2, .int a3])), (h1, .inl (cI, 2520, .inl f_911)), (h2, .inl (cI, 2520, .inl f_912)), (h4, .inl (cI, 4096, .inl f_907))] := hD
        refine lv_aload_n hx hb dX0_put_104 rfl (lv_at hl 2 rfl) ?_
        refine lv_dup hx hb dX0_put_105 rfl ?_
        refine va_get (D := (dC, dI)) (ci := 0) (v := .int a3) (C := RX0) (T := TX0) (N := 10) hx hb hts hinX0 hown hK hP 0 rfl rfl 9 (by decide) (hts (.fieldLink RX0 40 "MayRings$Families" "union" "I") (List.mem_of_getElem? (i := 6) rfl)) (fun _ h9 => h9) rfl dX0_put_106 ?_
        refine lv_iload_n hx hb dX0_put_109 rfl (lv_at hl 3 rfl) ?_
        refine lv_ior hx hb dX0_put_110 ?_
        refine lv_topi (fun x_914 ex_914 => ?_)
        refine va_put (D := (dC, dI)) (ci := 0) (v := .int x_914) (ty := .int) (C := RX0) (T := TX0) (N := 10) hx hb hts hinX0 tyX0 tyX0_ok nmX0 hown hK hP hD hS 0 rfl rfl 9 (by decide) (hts (.fieldLink RX0 40 "MayRings$Families" "union" "I") (List.mem_of_getElem? (i := 6) rfl)) (fun _ h9 => h9) rfl (by decide +kernel) (rfl) (rfl) (Nat.le_of_ble_eq_true rfl) dX0_put_111 (fun H locs hP hD hS => ?_)
        replace hP : va_P (dC, dI) vwCl [(h0, .inr (0, [.ref h1, .ref h2, .ref h3, .ref h4, .ref h5, .ref h6, .int x_913, .int a1, .int a2, .int x_914])), (h1, .inl (cI, 2520, .inl f_911)), (h2, .inl (cI, 2520, .inl f_912)), (h4, .inl (cI, 4096, .inl f_907))] H := hP
        replace hD : va_D A [(h0, .inr (0, [.ref h1, .ref h2, .ref h3, .ref h4, .ref h5, .ref h6, .int x_913, .int a1, .int a2, .int x_914])), (h1, .inl (cI, 2520, .inl f_911)), (h2, .inl (cI, 2520, .inl f_912)), (h4, .inl (cI, 4096, .inl f_907))] := hD
        have hP9 := hP.sub (ws' := [(h0, .inr (0, [.ref h1, .ref h2, .ref h3, .ref h4, .ref h5, .ref h6, .int x_913, .int a1, .int a2, .int x_914])), (h1, .inl (cI, 2520, .inl f_911)), (h2, .inl (cI, 2520, .inl f_912)), (h4, .inl (cI, 4096, .inl f_907))]) [0, 1, 2, 3] rfl
        have hD9 := hD.sub (ws' := [(h0, .inr (0, [.ref h1, .ref h2, .ref h3, .ref h4, .ref h5, .ref h6, .int x_913, .int a1, .int a2, .int x_914])), (h1, .inl (cI, 2520, .inl f_911)), (h2, .inl (cI, 2520, .inl f_912)), (h4, .inl (cI, 4096, .inl f_907))]) [0, 1, 2, 3] (by decide) rfl
        exact W.vret hx hb hr (fun t ht hW => ⟨⟨(), rfl, trivial, ⟨x_913, x_914, f_911, f_912, f_907, (rg_mono hx_913 (by decide) (by decide)), (show nbA f_912 from nbA_upd kr0 kr1 ef_912), by rw [ht]; exact hP9, hD9⟩⟩, hS.F ht⟩) hS.2.2 dX0_put_114
    · skip
      refine lv_aload_n hx hb dX0_put_28 rfl (lv_at hl 2 rfl) ?_
      refine va_get (D := (dC, dI)) (ci := 0) (v := .ref h4) (C := RX0) (T := TX0) (N := 10) hx hb hts hinX0 hown hK hP 0 rfl rfl 3 (by decide) (hts (.fieldLink RX0 21 "MayRings$Families" "slots" "[I") (List.mem_of_getElem? (i := 2) rfl)) (fun _ h9 => h9) rfl dX0_put_29 ?_
      refine lv_iload_n hx hb dX0_put_32 rfl (lv_at hl 1 rfl) ?_
      refine va_iald hx hb hK hP 3 1 rfl rfl (rg_in (n := 4096) (rg_mono hx_860 (by decide) (by decide))) dX0_put_33 ?_
      refine tp_v (.int x_903) (congrArg Value.int (ex_903.symm)) ?_
      refine lv_iload_n hx hb dX0_put_34 rfl (lv_at hl 3 rfl) ?_
      refine lv_iconst (v := 1) hx hb dX0_put_35 (by decide) ?_
      refine lv_iadd hx hb dX0_put_36 ?_
      refine lv_topi (fun x_915 ex_915 => ?_)
      refine lv_icmp_ne (tgt := 41) hx hb dX0_put_37 (by decide) (fun c_916 => ?_) (fun c_916 => ?_)
      · skip
        refine lv_iload_n hx hb dX0_put_41 rfl (lv_at hl 1 rfl) ?_
        refine lv_iconst (v := 1) hx hb dX0_put_42 (by decide) ?_
        refine lv_iadd hx hb dX0_put_43 ?_
        refine lv_topi (fun x_917 ex_917 => ?_)
        have hx_917 : rg (1) (4096) x_917 := by rw [ex_917]; exact rg_mono (rg_add hx_860 (rg_k (x := 1) (c := 1) (by decide)) (by decide) (by decide)) (by decide) (by decide)
        have qx_917 : x_917.toInt = x_860.toInt + (1) := by rw [ex_917]; exact rg_addE hx_860 (rg_k (x := 1) (c := 1) (by decide)) (by decide) (by decide) trivial
        refine lv_sipush (v := 4095) hx hb dX0_put_44 (by decide) ?_
        refine lv_iand hx hb dX0_put_47 ?_
        refine lv_topi (fun x_918 ex_918 => ?_)
        have hx_918 : rg (0) (4095) x_918 := by rw [ex_918]; exact rg_mono (rg_andr (b := 4095) (rg_mono (rg_k (x := 4095) (c := 4095) (by decide)) (by decide) (by decide))) (by decide) (by decide)
        refine lv_istore_n (lv' := [(3, .int x_918), (4, .int x_859), (0, .ref h0), (1, .int p0), (2, .int p1)]) hx hb dX0_put_48 rfl hl (by decide) rfl (fun ls hl => ?_)
        obtain ⟨x_919, ex_919⟩ : ∃ y : Int32, y = x_859 + Int32.ofInt (1) := ⟨_, rfl⟩
        have hx_919 : rg (1) (4096) x_919 := by rw [ex_919]; exact rg_mono (rg_add h_902 (rg_k (x := Int32.ofInt (1)) (c := 1) (by decide)) (by decide) (by decide)) (by decide) (by decide)
        have qx_919 : x_919.toInt = x_859.toInt + (1) := by rw [ex_919]; exact rg_addE h_902 (rg_k (x := Int32.ofInt (1)) (c := 1) (by decide)) (by decide) (by decide) (by decide)
        refine lv_iinc (v := x_919) (lv' := [(4, .int x_919), (3, .int x_918), (0, .ref h0), (1, .int p0), (2, .int p1)]) hx hb dX0_put_49 hl (k := 1) rfl (ex_919.symm) (by decide) rfl (fun ls hl => ?_)
        clear ex_919
        refine lv_goto (tgt := 11) hx hb dX0_put_52 (by decide) ?_
        exact ih_890 (x_919, x_918) H locs ls ⟨hP.sub (ws' := [(h0, .inr (0, [.ref h1, .ref h2, .ref h3, .ref h4, .ref h5, .ref h6, .int a0, .int a1, .int a2, .int a3])), (h1, .inl (cI, 2520, .inl g0)), (h2, .inl (cI, 2520, .inl g1)), (h4, .inl (cI, 4096, .inl g3))]) [0, 1, 2, 3] rfl, hD.sub (ws' := [(h0, .inr (0, [.ref h1, .ref h2, .ref h3, .ref h4, .ref h5, .ref h6, .int a0, .int a1, .int a2, .int a3])), (h1, .inl (cI, 2520, .inl g0)), (h2, .inl (cI, 2520, .inl g1)), (h4, .inl (cI, 4096, .inl g3))]) [0, 1, 2, 3] (by decide) rfl, hS, lv_sub hl [0, 1, 2, 3, 4] rfl, (rg_mono hx_919 (by decide) (by decide)), (rg_mono hx_918 (by decide) (by decide))⟩ (by show ((4096) - x_919.toInt).toNat < ((4096) - x_859.toInt).toNat; have ha := h_902; simp only [rg] at ha; omega)
      · skip
        have hP9 := hP.sub (ws' := [(h0, .inr (0, [.ref h1, .ref h2, .ref h3, .ref h4, .ref h5, .ref h6, .int a0, .int a1, .int a2, .int a3])), (h1, .inl (cI, 2520, .inl g0)), (h2, .inl (cI, 2520, .inl g1)), (h4, .inl (cI, 4096, .inl g3))]) [0, 1, 2, 3] rfl
        have hD9 := hD.sub (ws' := [(h0, .inr (0, [.ref h1, .ref h2, .ref h3, .ref h4, .ref h5, .ref h6, .int a0, .int a1, .int a2, .int a3])), (h1, .inl (cI, 2520, .inl g0)), (h2, .inl (cI, 2520, .inl g1)), (h4, .inl (cI, 4096, .inl g3))]) [0, 1, 2, 3] (by decide) rfl
        exact W.vret hx hb hr (fun t ht hW => ⟨⟨(), rfl, trivial, ⟨a0, a3, g0, g1, g3, (rg_mono ha0 (by decide) (by decide)), kr0, by rw [ht]; exact hP9, hD9⟩⟩, hS.F ht⟩) hS.2.2 dX0_put_40
def v_s_X0_close : List Cond := Cond.code yX0_close cX0_close 6 none :: ([Cond.fieldLink RX0 91 "MayRings$Ways" "closes" "Z", Cond.fieldLink RX0 78 "MayRings$Ways" "pairs" "[I", Cond.fieldLink RX0 24 "MayRings$Families" "bits" "[I", Cond.methodLink RX0 63 yX0_put, Cond.instanceMethod yX0_put, Cond.selects RX0 yX0_put yX0_put, Cond.initialized RX0] ++ (wsX00 ++ (wsX70 ++ (v_s_X0_put ++ ([])))))
theorem k_s_X0_close : GoodIn lw_tbl v_s_X0_close := gd_c (List.mem_of_getElem? (i := 1056) (by decide +kernel)) rfl (goodIn_app (gd_c (List.mem_of_getElem? (i := 458) (by decide +kernel)) rfl (gd_c (List.mem_of_getElem? (i := 444) (by decide +kernel)) rfl (gd_c (List.mem_of_getElem? (i := 504) (by decide +kernel)) rfl (gd_c (List.mem_of_getElem? (i := 1043) (by decide +kernel)) rfl (gd_c (List.mem_of_getElem? (i := 1045) (by decide +kernel)) rfl (gd_c (List.mem_of_getElem? (i := 55) (by decide +kernel)) rfl (gd_c (List.mem_of_getElem? (i := 143) (by decide +kernel)) rfl (gd_nil)))))))) (goodIn_app kfX0 (goodIn_app kfX7 (goodIn_app k_s_X0_put (gd_nil)))))
set_option maxHeartbeats 2000000 in
set_option maxRecDepth 100000 in
theorem c_s_X0_close (l : Launch) (dC : Nat → ClassId) (dI : Nat → Nat → Nat) (cB cI cJ cZ cP : ClassId) (h0 : Nat) (h1 : Nat) (g0 : Nat → Int32) (h2 : Nat) (g1 : Nat → Int32) (h3 : Nat) (h4 : Nat) (g3 : Nat → Int32) (h5 : Nat) (g4 : Nat → Int32) (h6 : Nat) (a0 : Int32) (ha0 : rg (0) (2520) a0) (a1 : Int32) (a2 : Int32) (a3 : Int32) (h7 : Nat) (h8 : Nat) (h9 : Nat) (g7 : Nat → Int32) (hg7 : rgA (0) (511) g7) (h10 : Nat) (h11 : Nat) (h12 : Nat) (h13 : Nat) (a4 : Int32) (a5 : Int32) (a6 : Int32) (ha6 : rg (0) (1) a6) (a7 : Int32) (a8 : Int32) (a9 : Int32) (a10 : Int32) (a11 : Int32) (p1 : Int32) (hp1 : rg (0) (8) p1) (p2 : Int32) (p3 : Int32) (kr0 : nbA g1) (kr1 : nb p3) (sz : Nat) : Met l yX0_close v_s_X0_close ({ frames := 1, cells := 0, slots := 0, locals := 24 }) (va_Pc [.ref h0, .ref h7, .int p1, .int p2, .int p3] (fun U => U.heap.size = sz ∧ va_P (dC, dI) vwCl [(h0, .inr (0, [.ref h1, .ref h2, .ref h3, .ref h4, .ref h5, .ref h6, .int a0, .int a1, .int a2, .int a3])), (h1, .inl (cI, 2520, .inl g0)), (h2, .inl (cI, 2520, .inl g1)), (h4, .inl (cI, 4096, .inl g3)), (h5, .inl (cI, 81, .inl g4)), (h7, .inr (7, [.ref h8, .ref h9, .ref h10, .ref h11, .ref h12, .ref h13, .int a4, .int a5, .int a6, .int a7, .int a8, .int a9, .int a10, .int a11])), (h9, .inl (cI, 9, .inl g7))] U.heap ∧ va_K (dC, dI) vwCl (ty5 cB cI cJ cZ cP) U ∧ va_D (fun _ => True) [(h0, .inr (0, [.ref h1, .ref h2, .ref h3, .ref h4, .ref h5, .ref h6, .int a0, .int a1, .int a2, .int a3])), (h1, .inl (cI, 2520, .inl g0)), (h2, .inl (cI, 2520, .inl g1)), (h4, .inl (cI, 4096, .inl g3)), (h5, .inl (cI, 81, .inl g4)), (h7, .inr (7, [.ref h8, .ref h9, .ref h10, .ref h11, .ref h12, .ref h13, .int a4, .int a5, .int a6, .int a7, .int a8, .int a9, .int a10, .int a11])), (h9, .inl (cI, 9, .inl g7))])) (va_Qv (fun _ : Unit => True) (fun _ t => ∃ (z0 : Int32) (z1 : Int32) (z2 : Nat → Int32) (z3 : Nat → Int32) (z4 : Nat → Int32), rg (0) (2520) z0 ∧ (nbA z3) ∧ va_P (dC, dI) vwCl [(h0, .inr (0, [.ref h1, .ref h2, .ref h3, .ref h4, .ref h5, .ref h6, .int z0, .int a1, .int a2, .int z1])), (h1, .inl (cI, 2520, .inl z2)), (h2, .inl (cI, 2520, .inl z3)), (h4, .inl (cI, 4096, .inl z4)), (h5, .inl (cI, 81, .inl g4)), (h7, .inr (7, [.ref h8, .ref h9, .ref h10, .ref h11, .ref h12, .ref h13, .int a4, .int a5, .int a6, .int a7, .int a8, .int a9, .int a10, .int a11])), (h9, .inl (cI, 9, .inl g7))] t.heap ∧ va_D (va_A [(h0, .inr (0, [.ref h1, .ref h2, .ref h3, .ref h4, .ref h5, .ref h6, .int a0, .int a1, .int a2, .int a3])), (h1, .inl (cI, 2520, .inl g0)), (h2, .inl (cI, 2520, .inl g1)), (h4, .inl (cI, 4096, .inl g3)), (h5, .inl (cI, 81, .inl g4)), (h7, .inr (7, [.ref h8, .ref h9, .ref h10, .ref h11, .ref h12, .ref h13, .int a4, .int a5, .int a6, .int a7, .int a8, .int a9, .int a10, .int a11])), (h9, .inl (cI, 9, .inl g7))] sz) [(h0, .inr (0, [.ref h1, .ref h2, .ref h3, .ref h4, .ref h5, .ref h6, .int z0, .int a1, .int a2, .int z1])), (h1, .inl (cI, 2520, .inl z2)), (h2, .inl (cI, 2520, .inl z3)), (h4, .inl (cI, 4096, .inl z4)), (h5, .inl (cI, 81, .inl g4)), (h7, .inr (7, [.ref h8, .ref h9, .ref h10, .ref h11, .ref h12, .ref h13, .int a4, .int a5, .int a6, .int a7, .int a8, .int a9, .int a10, .int a11])), (h9, .inl (cI, 9, .inl g7))]) (va_A [(h0, .inr (0, [.ref h1, .ref h2, .ref h3, .ref h4, .ref h5, .ref h6, .int a0, .int a1, .int a2, .int a3])), (h1, .inl (cI, 2520, .inl g0)), (h2, .inl (cI, 2520, .inl g1)), (h4, .inl (cI, 4096, .inl g3)), (h5, .inl (cI, 81, .inl g4)), (h7, .inr (7, [.ref h8, .ref h9, .ref h10, .ref h11, .ref h12, .ref h13, .int a4, .int a5, .int a6, .int a7, .int a8, .int a9, .int a10, .int a11])), (h9, .inl (cI, 9, .inl g7))] sz)) 0 0 (va_A [(h0, .inr (0, [.ref h1, .ref h2, .ref h3, .ref h4, .ref h5, .ref h6, .int a0, .int a1, .int a2, .int a3])), (h1, .inl (cI, 2520, .inl g0)), (h2, .inl (cI, 2520, .inl g1)), (h4, .inl (cI, 4096, .inl g3)), (h5, .inl (cI, 81, .inl g4)), (h7, .inr (7, [.ref h8, .ref h9, .ref h10, .ref h11, .ref h12, .ref h13, .int a4, .int a5, .int a6, .int a7, .int a8, .int a9, .int a10, .int a11])), (h9, .inl (cI, 9, .inl g7))] sz) := by
  refine Met.ofW (cc := cX0_close) (maxL := 6) (ret := none) (by decide) rfl ?_
  intro p e s m args below meth c s₁ B hml hv
  obtain ⟨rfl, hsz, hP, hK, hD0⟩ := hv
  have hx := B.exec
  have hb := B.bytes
  have hr := B.returns
  have hts := atoms_spec (ws := v_s_X0_close) B.pre
  have hown : s.vm.findClass RX0 = some m.cls := findClass_of_methodNamed B.named
  have hlocks := B.notSynchronized
  have hinX0 : ∀ w ∈ wsX00, w ∈ v_s_X0_close := fun _ h => List.mem_cons_of_mem _ (List.mem_append_right _ (List.mem_append_left _ h))
  have hinX7 : ∀ w ∈ wsX70, w ∈ v_s_X0_close := fun _ h => List.mem_cons_of_mem _ (List.mem_append_right _ (List.mem_append_right _ (List.mem_append_left _ h)))
  subst hsz
  have hD := hD0.self (sz := s.heap.size)
  generalize hAe : va_A [(h0, .inr (0, [.ref h1, .ref h2, .ref h3, .ref h4, .ref h5, .ref h6, .int a0, .int a1, .int a2, .int a3])), (h1, .inl (cI, 2520, .inl g0)), (h2, .inl (cI, 2520, .inl g1)), (h4, .inl (cI, 4096, .inl g3)), (h5, .inl (cI, 81, .inl g4)), (h7, .inr (7, [.ref h8, .ref h9, .ref h10, .ref h11, .ref h12, .ref h13, .int a4, .int a5, .int a6, .int a7, .int a8, .int a9, .int a10, .int a11])), (h9, .inl (cI, 9, .inl g7))] s.heap.size = A at hD ⊢
  have hA : ∀ q : Nat, s.heap.size ≤ q → A q := fun q h => by rw [← hAe]; exact Or.inr h
  have hP : va_P (dC, dI) vwCl [(h0, .inr (0, [.ref h1, .ref h2, .ref h3, .ref h4, .ref h5, .ref h6, .int a0, .int a1, .int a2, .int a3])), (h1, .inl (cI, 2520, .inl g0)), (h2, .inl (cI, 2520, .inl g1)), (h4, .inl (cI, 4096, .inl g3)), (h5, .inl (cI, 81, .inl g4)), (h7, .inr (7, [.ref h8, .ref h9, .ref h10, .ref h11, .ref h12, .ref h13, .int a4, .int a5, .int a6, .int a7, .int a8, .int a9, .int a10, .int a11])), (h9, .inl (cI, 9, .inl g7))] s.heap := hP
  have hl := lv_entry ([.ref h0, .ref h7, .int p1, .int p2, .int p3]) (n := 6) (Nat.le_of_ble_eq_true rfl)
  rw [lg_entry_eq]
  generalize (lg_sl ([.ref h0, .ref h7, .int p1, .int p2, .int p3]) ++ List.replicate (6 - (lg_sl ([.ref h0, .ref h7, .int p1, .int p2, .int p3])).length) Slot.unset).toArray = ls at hl ⊢
  have hl : lv_has ls 6 [(0, .ref h0), (1, .ref h7), (2, .int p1), (3, .int p2), (4, .int p3)] := hl
  refine W_gen (A := A) hP (fun H locs hP hS => ?_)
  refine lv_iload hx hb dX0_close_0 (lv_at hl 4 rfl) ?_
  refine lv_bipush (v := 15) hx hb dX0_close_2 (by decide) ?_
  refine lv_iand hx hb dX0_close_4 ?_
  refine lv_topi (fun x_1 ex_1 => ?_)
  have hx_1 : rg (0) (15) x_1 := by rw [ex_1]; exact rg_mono (rg_andr (b := 15) (rg_mono (rg_k (x := 15) (c := 15) (by decide)) (by decide) (by decide))) (by decide) (by decide)
  refine lv_istore (lv' := [(5, .int x_1), (0, .ref h0), (1, .ref h7), (2, .int p1), (3, .int p2), (4, .int p3)]) hx hb dX0_close_5 hl (by decide) rfl (fun ls hl => ?_)
  refine lv_aload_n hx hb dX0_close_7 rfl (lv_at hl 2 rfl) ?_
  refine va_get (D := (dC, dI)) (ci := 7) (v := .int a6) (C := RX7) (T := TX7) (N := 14) hx hb hts hinX7 hown hK hP 5 rfl rfl 8 (by decide) (hts (.fieldLink RX0 91 "MayRings$Ways" "closes" "Z") (List.mem_of_getElem? (i := 1) rfl)) (fun _ h9 => h9) rfl dX0_close_8 ?_
  refine lv_if_ne (tgt := 24) hx hb dX0_close_11 (by decide) (fun c_2 => ?_) (fun c_2 => ?_)
  · skip
    have h_3 : rg (1) (1) a6 := by have ha := ha6; have hb_ := (rg_k (x := 0) (c := 0) (by decide)); simp only [rg, fa_lt, fa_le, fa_eq, (by decide : (0 : Int32).toInt = 0)] at ha hb_ c_2; simp only [rg]; omega
    refine lv_iload hx hb dX0_close_24 (lv_at hl 0 rfl) ?_
    refine lv_bipush (v := 9) hx hb dX0_close_26 (by decide) ?_
    refine lv_icmp_ge (tgt := 66) hx hb dX0_close_28 (by decide) (fun c_4 => ?_) (fun c_4 => ?_)
    · skip
      have h_5 : rg (9) (15) x_1 := by have ha := hx_1; have hb_ := (rg_k (x := 9) (c := 9) (by decide)); simp only [rg, fa_lt, fa_le, fa_eq, (by decide : (9 : Int32).toInt = 9)] at ha hb_ c_4; simp only [rg]; omega
      have hP9 := hP.sub (ws' := [(h0, .inr (0, [.ref h1, .ref h2, .ref h3, .ref h4, .ref h5, .ref h6, .int a0, .int a1, .int a2, .int a3])), (h1, .inl (cI, 2520, .inl g0)), (h2, .inl (cI, 2520, .inl g1)), (h4, .inl (cI, 4096, .inl g3)), (h5, .inl (cI, 81, .inl g4)), (h7, .inr (7, [.ref h8, .ref h9, .ref h10, .ref h11, .ref h12, .ref h13, .int a4, .int a5, .int a6, .int a7, .int a8, .int a9, .int a10, .int a11])), (h9, .inl (cI, 9, .inl g7))]) [0, 1, 2, 3, 4, 5, 6] rfl
      have hD9 := hD.sub (ws' := [(h0, .inr (0, [.ref h1, .ref h2, .ref h3, .ref h4, .ref h5, .ref h6, .int a0, .int a1, .int a2, .int a3])), (h1, .inl (cI, 2520, .inl g0)), (h2, .inl (cI, 2520, .inl g1)), (h4, .inl (cI, 4096, .inl g3)), (h5, .inl (cI, 81, .inl g4)), (h7, .inr (7, [.ref h8, .ref h9, .ref h10, .ref h11, .ref h12, .ref h13, .int a4, .int a5, .int a6, .int a7, .int a8, .int a9, .int a10, .int a11])), (h9, .inl (cI, 9, .inl g7))]) [0, 1, 2, 3, 4, 5, 6] (by decide) rfl
      exact W.vret hx hb hr (fun t ht hW => ⟨⟨(), rfl, trivial, ⟨a0, a3, g0, g1, g3, (rg_mono ha0 (by decide) (by decide)), kr0, by rw [ht]; exact hP9, hD9⟩⟩, hS.F ht⟩) hS.2.2 dX0_close_66
    · skip
      have h_6 : rg (0) (8) x_1 := by have ha := hx_1; have hb_ := (rg_k (x := 9) (c := 9) (by decide)); simp only [rg, fa_lt, fa_le, fa_eq, (by decide : (9 : Int32).toInt = 9)] at ha hb_ c_4; simp only [rg]; omega
      refine lv_aload_n hx hb dX0_close_31 rfl (lv_at hl 2 rfl) ?_
      refine va_get (D := (dC, dI)) (ci := 7) (v := .ref h9) (C := RX7) (T := TX7) (N := 14) hx hb hts hinX7 hown hK hP 5 rfl rfl 1 (by decide) (hts (.fieldLink RX0 78 "MayRings$Ways" "pairs" "[I") (List.mem_of_getElem? (i := 2) rfl)) (fun _ h9 => h9) rfl dX0_close_32 ?_
      refine lv_iload_n hx hb dX0_close_35 rfl (lv_at hl 3 rfl) ?_
      refine va_iald hx hb hK hP 6 1 rfl rfl (rg_in (n := 9) (rg_mono hp1 (by decide) (by decide))) dX0_close_36 ?_
      refine lv_topi (fun x_7 ex_7 => ?_)
      have hx_7 : rg (0) (511) x_7 := by rw [ex_7]; exact rg_mono (hg7 _) (by decide) (by decide)
      refine lv_iload hx hb dX0_close_37 (lv_at hl 0 rfl) ?_
      refine lv_ishr hx hb dX0_close_39 ?_
      refine lv_topi (fun x_8 ex_8 => ?_)
      have hx_8 : rg (0) (511) x_8 := by rw [ex_8]; exact rg_mono (rg_shr (b := 511) (rg_mono hx_7 (by decide) (by decide))) (by decide) (by decide)
      have kx_8_0 : rg 1 2147483647 x_8 → rg 1 (511) x_7 := fun hq => rg_shrP hx_7 (ex_8 ▸ hq)
      refine lv_iconst (v := 1) hx hb dX0_close_40 (by decide) ?_
      refine lv_iand hx hb dX0_close_41 ?_
      refine lv_topi (fun x_9 ex_9 => ?_)
      have hx_9 : rg (0) (1) x_9 := by rw [ex_9]; exact rg_mono (rg_andr (b := 1) (rg_mono (rg_k (x := 1) (c := 1) (by decide)) (by decide) (by decide))) (by decide) (by decide)
      have kx_9_0 : rg 1 2147483647 x_9 → rg 1 (511) x_8 := fun hq => rg_andP hx_8 (ex_9 ▸ hq)
      refine lv_iconst (v := 1) hx hb dX0_close_42 (by decide) ?_
      refine lv_icmp_ne (tgt := 66) hx hb dX0_close_43 (by decide) (fun c_10 => ?_) (fun c_10 => ?_)
      · skip
        have h_11 : rg (0) (0) x_9 := by have ha := hx_9; have hb_ := (rg_k (x := 1) (c := 1) (by decide)); simp only [rg, fa_lt, fa_le, fa_eq, (by decide : (1 : Int32).toInt = 1)] at ha hb_ c_10; simp only [rg]; omega
        have hP9 := hP.sub (ws' := [(h0, .inr (0, [.ref h1, .ref h2, .ref h3, .ref h4, .ref h5, .ref h6, .int a0, .int a1, .int a2, .int a3])), (h1, .inl (cI, 2520, .inl g0)), (h2, .inl (cI, 2520, .inl g1)), (h4, .inl (cI, 4096, .inl g3)), (h5, .inl (cI, 81, .inl g4)), (h7, .inr (7, [.ref h8, .ref h9, .ref h10, .ref h11, .ref h12, .ref h13, .int a4, .int a5, .int a6, .int a7, .int a8, .int a9, .int a10, .int a11])), (h9, .inl (cI, 9, .inl g7))]) [0, 1, 2, 3, 4, 5, 6] rfl
        have hD9 := hD.sub (ws' := [(h0, .inr (0, [.ref h1, .ref h2, .ref h3, .ref h4, .ref h5, .ref h6, .int a0, .int a1, .int a2, .int a3])), (h1, .inl (cI, 2520, .inl g0)), (h2, .inl (cI, 2520, .inl g1)), (h4, .inl (cI, 4096, .inl g3)), (h5, .inl (cI, 81, .inl g4)), (h7, .inr (7, [.ref h8, .ref h9, .ref h10, .ref h11, .ref h12, .ref h13, .int a4, .int a5, .int a6, .int a7, .int a8, .int a9, .int a10, .int a11])), (h9, .inl (cI, 9, .inl g7))]) [0, 1, 2, 3, 4, 5, 6] (by decide) rfl
        exact W.vret hx hb hr (fun t ht hW => ⟨⟨(), rfl, trivial, ⟨a0, a3, g0, g1, g3, (rg_mono ha0 (by decide) (by decide)), kr0, by rw [ht]; exact hP9, hD9⟩⟩, hS.F ht⟩) hS.2.2 dX0_close_66
      · skip
        have h_12 : rg (1) (1) x_9 := by have ha := hx_9; have hb_ := (rg_k (x := 1) (c := 1) (by decide)); simp only [rg, fa_lt, fa_le, fa_eq, (by decide : (1 : Int32).toInt = 1)] at ha hb_ c_10; simp only [rg]; omega
        have h_13 : rg (1) (511) x_8 := rg_meet hx_8 (kx_9_0 (rg_mono h_12 (by decide) (by decide))) (by decide) (by decide)
        have h_14 : rg (1) (511) x_7 := rg_meet hx_7 (kx_8_0 (rg_mono h_13 (by decide) (by decide))) (by decide) (by decide)
        refine lv_aload_n hx hb dX0_close_46 rfl (lv_at hl 1 rfl) ?_
        refine lv_iload_n hx hb dX0_close_47 rfl (lv_at hl 4 rfl) ?_
        refine lv_aload_n hx hb dX0_close_48 rfl (lv_at hl 1 rfl) ?_
        refine va_get (D := (dC, dI)) (ci := 0) (v := .ref h5) (C := RX0) (T := TX0) (N := 10) hx hb hts hinX0 hown hK hP 0 rfl rfl 4 (by decide) (hts (.fieldLink RX0 24 "MayRings$Families" "bits" "[I") (List.mem_of_getElem? (i := 3) rfl)) (fun _ h9 => h9) rfl dX0_close_49 ?_
        refine lv_iload_n hx hb dX0_close_52 rfl (lv_at hl 3 rfl) ?_
        refine lv_bipush (v := 9) hx hb dX0_close_53 (by decide) ?_
        refine lv_imul hx hb dX0_close_55 ?_
        refine lv_topi (fun x_15 ex_15 => ?_)
        have hx_15 : rg (0) (72) x_15 := by rw [ex_15]; exact rg_mono (rg_mul hp1 (rg_k (x := 9) (c := 9) (by decide)) (by decide) (by decide) (by decide)) (by decide) (by decide)
        refine lv_iload hx hb dX0_close_56 (lv_at hl 0 rfl) ?_
        refine lv_iadd hx hb dX0_close_58 ?_
        refine lv_topi (fun x_16 ex_16 => ?_)
        have hx_16 : rg (0) (80) x_16 := by rw [ex_16]; exact rg_mono (rg_add hx_15 h_6 (by decide) (by decide)) (by decide) (by decide)
        have qx_16 : x_16.toInt = x_15.toInt + x_1.toInt := by rw [ex_16]; exact rg_addQ hx_15 h_6 (by decide) (by decide)
        refine va_iald hx hb hK hP 4 1 rfl rfl (rg_in (n := 81) (rg_mono hx_16 (by decide) (by decide))) dX0_close_59 ?_
        refine lv_topi (fun x_17 ex_17 => ?_)
        refine lv_ior hx hb dX0_close_60 ?_
        refine lv_topi (fun x_18 ex_18 => ?_)
        refine lv_iload hx hb dX0_close_61 (lv_at hl 5 rfl) ?_
        have hPc := hP.sub (ws' := [(h0, .inr (0, [.ref h1, .ref h2, .ref h3, .ref h4, .ref h5, .ref h6, .int a0, .int a1, .int a2, .int a3])), (h1, .inl (cI, 2520, .inl g0)), (h2, .inl (cI, 2520, .inl g1)), (h4, .inl (cI, 4096, .inl g3))]) [0, 1, 2, 3] rfl
        have hDc := hD.sub (ws' := [(h0, .inr (0, [.ref h1, .ref h2, .ref h3, .ref h4, .ref h5, .ref h6, .int a0, .int a1, .int a2, .int a3])), (h1, .inl (cI, 2520, .inl g0)), (h2, .inl (cI, 2520, .inl g1)), (h4, .inl (cI, 4096, .inl g3))]) [0, 1, 2, 3] (by decide) rfl
        have hFc := va_free (wc := [(h0, .inr (0, [.ref h1, .ref h2, .ref h3, .ref h4, .ref h5, .ref h6, .int a0, .int a1, .int a2, .int a3])), (h1, .inl (cI, 2520, .inl g0)), (h2, .inl (cI, 2520, .inl g1)), (h4, .inl (cI, 4096, .inl g3))]) hD hS hA [0, 1, 2, 3] rfl
        refine va_callv (va_runV (As := [.int x_18, .int p3]) (rest := []) ⟨hx, hb, hml, hown, hts⟩ (c_s_X0_put l dC dI cB cI cJ cZ cP h0 h1 g0 h2 g1 h3 h4 g3 h5 h6 a0 (rg_mono ha0 (by decide) (by decide)) a1 a2 a3 x_18 p3 kr0 kr1 H.size) (cwV 2 hts (gd_V (List.mem_of_getElem? (i := 4) rfl) (List.mem_of_getElem? (i := 5) rfl) (List.mem_of_getElem? (i := 6) rfl) (List.mem_of_getElem? (i := 7) rfl) (gd_mono k_s_X0_put (fun _ h => List.mem_cons_of_mem _ (List.mem_append_right _ (List.mem_append_right _ (List.mem_append_right _ (List.mem_append_left _ h))))))) rfl rfl rfl (by decide +kernel) ⟨Nat.le_of_ble_eq_true rfl, Nat.le_of_ble_eq_true rfl⟩) ⟨fun a U g mk q => by obtain ⟨q0, q1, qP, qK, qD⟩ := q; exact ⟨q0, q1, qP, va_K.moved (u := U) (U := U.calling g mk a) (Vm.Alike.refl U.vm) qK, qD⟩, va_recv hK hPc (ci := 0) (q0 := 0) rfl rfl, fun U hU hW => ⟨rfl, by rw [hU], by rw [hU]; exact hPc, va_K.moved hW.alike hK, hDc.weaken (fun _ _ _ _ => trivial)⟩⟩ rfl rfl hl.1 rfl (lv_room (Nat.le_of_ble_eq_true rfl)) dX0_close_63 ⟨Nat.le_of_ble_eq_true rfl, Nat.le_of_ble_eq_true rfl⟩) hS (fun q _ h => hFc q h) hFc (fun u t H1 locs ht hvm hw hB hz1 hk1 hS => ?_)
        obtain ⟨x_20, x_21, f_22, f_23, f_24, hx_20, k_25, hP1, hD1⟩ := hB
        rw [ht] at hP1
        obtain ⟨hP, hD⟩ := va_join (wr := [(h5, .inl (cI, 81, .inl g4)), (h7, .inr (7, [.ref h8, .ref h9, .ref h10, .ref h11, .ref h12, .ref h13, .int a4, .int a5, .int a6, .int a7, .int a8, .int a9, .int a10, .int a11])), (h9, .inl (cI, 9, .inl g7))]) (w1 := [(h0, .inr (0, [.ref h1, .ref h2, .ref h3, .ref h4, .ref h5, .ref h6, .int x_20, .int a1, .int a2, .int x_21])), (h1, .inl (cI, 2520, .inl f_22)), (h2, .inl (cI, 2520, .inl f_23)), (h4, .inl (cI, 4096, .inl f_24))]) hP hD [0, 1, 2, 3] [4, 5, 6] rfl rfl (by decide) (by decide) hk1 hFc hP1 hD1
        generalize H1 = H at hP hS ⊢
        replace hP : va_P (dC, dI) vwCl [(h5, .inl (cI, 81, .inl g4)), (h7, .inr (7, [.ref h8, .ref h9, .ref h10, .ref h11, .ref h12, .ref h13, .int a4, .int a5, .int a6, .int a7, .int a8, .int a9, .int a10, .int a11])), (h9, .inl (cI, 9, .inl g7)), (h0, .inr (0, [.ref h1, .ref h2, .ref h3, .ref h4, .ref h5, .ref h6, .int x_20, .int a1, .int a2, .int x_21])), (h1, .inl (cI, 2520, .inl f_22)), (h2, .inl (cI, 2520, .inl f_23)), (h4, .inl (cI, 4096, .inl f_24))] H := hP
        replace hD : va_D A [(h5, .inl (cI, 81, .inl g4)), (h7, .inr (7, [.ref h8, .ref h9, .ref h10, .ref h11, .ref h12, .ref h13, .int a4, .int a5, .int a6, .int a7, .int a8, .int a9, .int a10, .int a11])), (h9, .inl (cI, 9, .inl g7)), (h0, .inr (0, [.ref h1, .ref h2, .ref h3, .ref h4, .ref h5, .ref h6, .int x_20, .int a1, .int a2, .int x_21])), (h1, .inl (cI, 2520, .inl f_22)), (h2, .inl (cI, 2520, .inl f_23)), (h4, .inl (cI, 4096, .inl f_24))] := hD
        have hP9 := hP.sub (ws' := [(h0, .inr (0, [.ref h1, .ref h2, .ref h3, .ref h4, .ref h5, .ref h6, .int x_20, .int a1, .int a2, .int x_21])), (h1, .inl (cI, 2520, .inl f_22)), (h2, .inl (cI, 2520, .inl f_23)), (h4, .inl (cI, 4096, .inl f_24)), (h5, .inl (cI, 81, .inl g4)), (h7, .inr (7, [.ref h8, .ref h9, .ref h10, .ref h11, .ref h12, .ref h13, .int a4, .int a5, .int a6, .int a7, .int a8, .int a9, .int a10, .int a11])), (h9, .inl (cI, 9, .inl g7))]) [3, 4, 5, 6, 0, 1, 2] rfl
        have hD9 := hD.sub (ws' := [(h0, .inr (0, [.ref h1, .ref h2, .ref h3, .ref h4, .ref h5, .ref h6, .int x_20, .int a1, .int a2, .int x_21])), (h1, .inl (cI, 2520, .inl f_22)), (h2, .inl (cI, 2520, .inl f_23)), (h4, .inl (cI, 4096, .inl f_24)), (h5, .inl (cI, 81, .inl g4)), (h7, .inr (7, [.ref h8, .ref h9, .ref h10, .ref h11, .ref h12, .ref h13, .int a4, .int a5, .int a6, .int a7, .int a8, .int a9, .int a10, .int a11])), (h9, .inl (cI, 9, .inl g7))]) [3, 4, 5, 6, 0, 1, 2] (by decide) rfl
        exact W.vret hx hb hr (fun t ht hW => ⟨⟨(), rfl, trivial, ⟨x_20, x_21, f_22, f_23, f_24, (rg_mono hx_20 (by decide) (by decide)), k_25, by rw [ht]; exact hP9, hD9⟩⟩, hS.F ht⟩) hS.2.2 dX0_close_66
  · skip
    have h_26 : rg (0) (0) a6 := by have ha := ha6; have hb_ := (rg_k (x := 0) (c := 0) (by decide)); simp only [rg, fa_lt, fa_le, fa_eq, (by decide : (0 : Int32).toInt = 0)] at ha hb_ c_2; simp only [rg]; omega
    refine lv_aload_n hx hb dX0_close_14 rfl (lv_at hl 1 rfl) ?_
    refine lv_iload_n hx hb dX0_close_15 rfl (lv_at hl 4 rfl) ?_
    refine lv_iload hx hb dX0_close_16 (lv_at hl 5 rfl) ?_
    have hPc := hP.sub (ws' := [(h0, .inr (0, [.ref h1, .ref h2, .ref h3, .ref h4, .ref h5, .ref h6, .int a0, .int a1, .int a2, .int a3])), (h1, .inl (cI, 2520, .inl g0)), (h2, .inl (cI, 2520, .inl g1)), (h4, .inl (cI, 4096, .inl g3))]) [0, 1, 2, 3] rfl
    have hDc := hD.sub (ws' := [(h0, .inr (0, [.ref h1, .ref h2, .ref h3, .ref h4, .ref h5, .ref h6, .int a0, .int a1, .int a2, .int a3])), (h1, .inl (cI, 2520, .inl g0)), (h2, .inl (cI, 2520, .inl g1)), (h4, .inl (cI, 4096, .inl g3))]) [0, 1, 2, 3] (by decide) rfl
    have hFc := va_free (wc := [(h0, .inr (0, [.ref h1, .ref h2, .ref h3, .ref h4, .ref h5, .ref h6, .int a0, .int a1, .int a2, .int a3])), (h1, .inl (cI, 2520, .inl g0)), (h2, .inl (cI, 2520, .inl g1)), (h4, .inl (cI, 4096, .inl g3))]) hD hS hA [0, 1, 2, 3] rfl
    refine va_callv (va_runV (As := [.int p2, .int p3]) (rest := []) ⟨hx, hb, hml, hown, hts⟩ (c_s_X0_put l dC dI cB cI cJ cZ cP h0 h1 g0 h2 g1 h3 h4 g3 h5 h6 a0 (rg_mono ha0 (by decide) (by decide)) a1 a2 a3 p2 p3 kr0 kr1 H.size) (cwV 2 hts (gd_V (List.mem_of_getElem? (i := 4) rfl) (List.mem_of_getElem? (i := 5) rfl) (List.mem_of_getElem? (i := 6) rfl) (List.mem_of_getElem? (i := 7) rfl) (gd_mono k_s_X0_put (fun _ h => List.mem_cons_of_mem _ (List.mem_append_right _ (List.mem_append_right _ (List.mem_append_right _ (List.mem_append_left _ h))))))) rfl rfl rfl (by decide +kernel) ⟨Nat.le_of_ble_eq_true rfl, Nat.le_of_ble_eq_true rfl⟩) ⟨fun a U g mk q => by obtain ⟨q0, q1, qP, qK, qD⟩ := q; exact ⟨q0, q1, qP, va_K.moved (u := U) (U := U.calling g mk a) (Vm.Alike.refl U.vm) qK, qD⟩, va_recv hK hPc (ci := 0) (q0 := 0) rfl rfl, fun U hU hW => ⟨rfl, by rw [hU], by rw [hU]; exact hPc, va_K.moved hW.alike hK, hDc.weaken (fun _ _ _ _ => trivial)⟩⟩ rfl rfl hl.1 rfl (lv_room (Nat.le_of_ble_eq_true rfl)) dX0_close_18 ⟨Nat.le_of_ble_eq_true rfl, Nat.le_of_ble_eq_true rfl⟩) hS (fun q _ h => hFc q h) hFc (fun u t H1 locs ht hvm hw hB hz1 hk1 hS => ?_)
    obtain ⟨x_28, x_29, f_30, f_31, f_32, hx_28, k_33, hP1, hD1⟩ := hB
    rw [ht] at hP1
    obtain ⟨hP, hD⟩ := va_join (wr := [(h5, .inl (cI, 81, .inl g4)), (h7, .inr (7, [.ref h8, .ref h9, .ref h10, .ref h11, .ref h12, .ref h13, .int a4, .int a5, .int a6, .int a7, .int a8, .int a9, .int a10, .int a11])), (h9, .inl (cI, 9, .inl g7))]) (w1 := [(h0, .inr (0, [.ref h1, .ref h2, .ref h3, .ref h4, .ref h5, .ref h6, .int x_28, .int a1, .int a2, .int x_29])), (h1, .inl (cI, 2520, .inl f_30)), (h2, .inl (cI, 2520, .inl f_31)), (h4, .inl (cI, 4096, .inl f_32))]) hP hD [0, 1, 2, 3] [4, 5, 6] rfl rfl (by decide) (by decide) hk1 hFc hP1 hD1
    generalize H1 = H at hP hS ⊢
    replace hP : va_P (dC, dI) vwCl [(h5, .inl (cI, 81, .inl g4)), (h7, .inr (7, [.ref h8, .ref h9, .ref h10, .ref h11, .ref h12, .ref h13, .int a4, .int a5, .int a6, .int a7, .int a8, .int a9, .int a10, .int a11])), (h9, .inl (cI, 9, .inl g7)), (h0, .inr (0, [.ref h1, .ref h2, .ref h3, .ref h4, .ref h5, .ref h6, .int x_28, .int a1, .int a2, .int x_29])), (h1, .inl (cI, 2520, .inl f_30)), (h2, .inl (cI, 2520, .inl f_31)), (h4, .inl (cI, 4096, .inl f_32))] H := hP
    replace hD : va_D A [(h5, .inl (cI, 81, .inl g4)), (h7, .inr (7, [.ref h8, .ref h9, .ref h10, .ref h11, .ref h12, .ref h13, .int a4, .int a5, .int a6, .int a7, .int a8, .int a9, .int a10, .int a11])), (h9, .inl (cI, 9, .inl g7)), (h0, .inr (0, [.ref h1, .ref h2, .ref h3, .ref h4, .ref h5, .ref h6, .int x_28, .int a1, .int a2, .int x_29])), (h1, .inl (cI, 2520, .inl f_30)), (h2, .inl (cI, 2520, .inl f_31)), (h4, .inl (cI, 4096, .inl f_32))] := hD
    refine lv_goto (tgt := 66) hx hb dX0_close_21 (by decide) ?_
    have hP9 := hP.sub (ws' := [(h0, .inr (0, [.ref h1, .ref h2, .ref h3, .ref h4, .ref h5, .ref h6, .int x_28, .int a1, .int a2, .int x_29])), (h1, .inl (cI, 2520, .inl f_30)), (h2, .inl (cI, 2520, .inl f_31)), (h4, .inl (cI, 4096, .inl f_32)), (h5, .inl (cI, 81, .inl g4)), (h7, .inr (7, [.ref h8, .ref h9, .ref h10, .ref h11, .ref h12, .ref h13, .int a4, .int a5, .int a6, .int a7, .int a8, .int a9, .int a10, .int a11])), (h9, .inl (cI, 9, .inl g7))]) [3, 4, 5, 6, 0, 1, 2] rfl
    have hD9 := hD.sub (ws' := [(h0, .inr (0, [.ref h1, .ref h2, .ref h3, .ref h4, .ref h5, .ref h6, .int x_28, .int a1, .int a2, .int x_29])), (h1, .inl (cI, 2520, .inl f_30)), (h2, .inl (cI, 2520, .inl f_31)), (h4, .inl (cI, 4096, .inl f_32)), (h5, .inl (cI, 81, .inl g4)), (h7, .inr (7, [.ref h8, .ref h9, .ref h10, .ref h11, .ref h12, .ref h13, .int a4, .int a5, .int a6, .int a7, .int a8, .int a9, .int a10, .int a11])), (h9, .inl (cI, 9, .inl g7))]) [3, 4, 5, 6, 0, 1, 2] (by decide) rfl
    exact W.vret hx hb hr (fun t ht hW => ⟨⟨(), rfl, trivial, ⟨x_28, x_29, f_30, f_31, f_32, (rg_mono hx_28 (by decide) (by decide)), k_33, by rw [ht]; exact hP9, hD9⟩⟩, hS.F ht⟩) hS.2.2 dX0_close_66
def v_s_X0_findTwins : List Cond := Cond.code yX0_findTwins cX0_findTwins 4 none :: ([Cond.fieldLink RX0 27 "MayRings$Families" "twins" "[I", Cond.fieldLink RX0 52 "MayRings$Ways" "houses" "I", Cond.methodLink RX0 74 yX0_areTwins, Cond.instanceMethod yX0_areTwins, Cond.selects RX0 yX0_areTwins yX0_areTwins, Cond.initialized RX0] ++ (wsX00 ++ (wsX70 ++ (v_s_X0_areTwins ++ ([])))))
theorem k_s_X0_findTwins : GoodIn lw_tbl v_s_X0_findTwins := gd_c (List.mem_of_getElem? (i := 1038) (by decide +kernel)) rfl (goodIn_app (gd_c (List.mem_of_getElem? (i := 505) (by decide +kernel)) rfl (gd_c (List.mem_of_getElem? (i := 453) (by decide +kernel)) rfl (gd_c (List.mem_of_getElem? (i := 1039) (by decide +kernel)) rfl (gd_c (List.mem_of_getElem? (i := 1041) (by decide +kernel)) rfl (gd_c (List.mem_of_getElem? (i := 54) (by decide +kernel)) rfl (gd_c (List.mem_of_getElem? (i := 143) (by decide +kernel)) rfl (gd_nil))))))) (goodIn_app kfX0 (goodIn_app kfX7 (goodIn_app k_s_X0_areTwins (gd_nil)))))
set_option maxHeartbeats 2000000 in
set_option maxRecDepth 100000 in
theorem c_s_X0_findTwins (l : Launch) (dC : Nat → ClassId) (dI : Nat → Nat → Nat) (cB cI cJ cZ cP : ClassId) (h0 : Nat) (h1 : Nat) (h2 : Nat) (h3 : Nat) (h4 : Nat) (h5 : Nat) (h6 : Nat) (g5 : Nat → Int32) (a0 : Int32) (a1 : Int32) (a2 : Int32) (ha2 : rg (0) (9) a2) (a3 : Int32) (h7 : Nat) (h8 : Nat) (g6 : Nat → Int32) (hg6 : rgA (0) (511) g6) (h9 : Nat) (g7 : Nat → Int32) (hg7 : rgA (0) (511) g7) (h10 : Nat) (h11 : Nat) (h12 : Nat) (h13 : Nat) (a4 : Int32) (ha4 : rg (0) (511) a4) (a5 : Int32) (a6 : Int32) (a7 : Int32) (a8 : Int32) (a9 : Int32) (a10 : Int32) (a11 : Int32) (sz : Nat) : Met l yX0_findTwins v_s_X0_findTwins ({ frames := 1, cells := 0, slots := 0, locals := 26 }) (va_Pc [.ref h0, .ref h7] (fun U => U.heap.size = sz ∧ va_P (dC, dI) vwCl [(h0, .inr (0, [.ref h1, .ref h2, .ref h3, .ref h4, .ref h5, .ref h6, .int a0, .int a1, .int a2, .int a3])), (h6, .inl (cI, 9, .inl g5)), (h7, .inr (7, [.ref h8, .ref h9, .ref h10, .ref h11, .ref h12, .ref h13, .int a4, .int a5, .int a6, .int a7, .int a8, .int a9, .int a10, .int a11])), (h8, .inl (cI, 9, .inl g6)), (h9, .inl (cI, 9, .inl g7))] U.heap ∧ va_K (dC, dI) vwCl (ty5 cB cI cJ cZ cP) U ∧ va_D (fun _ => True) [(h0, .inr (0, [.ref h1, .ref h2, .ref h3, .ref h4, .ref h5, .ref h6, .int a0, .int a1, .int a2, .int a3])), (h6, .inl (cI, 9, .inl g5)), (h7, .inr (7, [.ref h8, .ref h9, .ref h10, .ref h11, .ref h12, .ref h13, .int a4, .int a5, .int a6, .int a7, .int a8, .int a9, .int a10, .int a11])), (h8, .inl (cI, 9, .inl g6)), (h9, .inl (cI, 9, .inl g7))])) (va_Qv (fun _ : Unit => True) (fun _ t => ∃ (z0 : Nat → Int32), va_P (dC, dI) vwCl [(h0, .inr (0, [.ref h1, .ref h2, .ref h3, .ref h4, .ref h5, .ref h6, .int a0, .int a1, .int a2, .int a3])), (h6, .inl (cI, 9, .inl z0)), (h7, .inr (7, [.ref h8, .ref h9, .ref h10, .ref h11, .ref h12, .ref h13, .int a4, .int a5, .int a6, .int a7, .int a8, .int a9, .int a10, .int a11])), (h8, .inl (cI, 9, .inl g6)), (h9, .inl (cI, 9, .inl g7))] t.heap ∧ va_D (va_A [(h0, .inr (0, [.ref h1, .ref h2, .ref h3, .ref h4, .ref h5, .ref h6, .int a0, .int a1, .int a2, .int a3])), (h6, .inl (cI, 9, .inl g5)), (h7, .inr (7, [.ref h8, .ref h9, .ref h10, .ref h11, .ref h12, .ref h13, .int a4, .int a5, .int a6, .int a7, .int a8, .int a9, .int a10, .int a11])), (h8, .inl (cI, 9, .inl g6)), (h9, .inl (cI, 9, .inl g7))] sz) [(h0, .inr (0, [.ref h1, .ref h2, .ref h3, .ref h4, .ref h5, .ref h6, .int a0, .int a1, .int a2, .int a3])), (h6, .inl (cI, 9, .inl z0)), (h7, .inr (7, [.ref h8, .ref h9, .ref h10, .ref h11, .ref h12, .ref h13, .int a4, .int a5, .int a6, .int a7, .int a8, .int a9, .int a10, .int a11])), (h8, .inl (cI, 9, .inl g6)), (h9, .inl (cI, 9, .inl g7))]) (va_A [(h0, .inr (0, [.ref h1, .ref h2, .ref h3, .ref h4, .ref h5, .ref h6, .int a0, .int a1, .int a2, .int a3])), (h6, .inl (cI, 9, .inl g5)), (h7, .inr (7, [.ref h8, .ref h9, .ref h10, .ref h11, .ref h12, .ref h13, .int a4, .int a5, .int a6, .int a7, .int a8, .int a9, .int a10, .int a11])), (h8, .inl (cI, 9, .inl g6)), (h9, .inl (cI, 9, .inl g7))] sz)) 0 0 (va_A [(h0, .inr (0, [.ref h1, .ref h2, .ref h3, .ref h4, .ref h5, .ref h6, .int a0, .int a1, .int a2, .int a3])), (h6, .inl (cI, 9, .inl g5)), (h7, .inr (7, [.ref h8, .ref h9, .ref h10, .ref h11, .ref h12, .ref h13, .int a4, .int a5, .int a6, .int a7, .int a8, .int a9, .int a10, .int a11])), (h8, .inl (cI, 9, .inl g6)), (h9, .inl (cI, 9, .inl g7))] sz) := by
  refine Met.ofW (cc := cX0_findTwins) (maxL := 4) (ret := none) (by decide) rfl ?_
  intro p e s m args below meth c s₁ B hml hv
  obtain ⟨rfl, hsz, hP, hK, hD0⟩ := hv
  have hx := B.exec
  have hb := B.bytes
  have hr := B.returns
  have hts := atoms_spec (ws := v_s_X0_findTwins) B.pre
  have hown : s.vm.findClass RX0 = some m.cls := findClass_of_methodNamed B.named
  have hlocks := B.notSynchronized
  have hinX0 : ∀ w ∈ wsX00, w ∈ v_s_X0_findTwins := fun _ h => List.mem_cons_of_mem _ (List.mem_append_right _ (List.mem_append_left _ h))
  have hinX7 : ∀ w ∈ wsX70, w ∈ v_s_X0_findTwins := fun _ h => List.mem_cons_of_mem _ (List.mem_append_right _ (List.mem_append_right _ (List.mem_append_left _ h)))
  subst hsz
  have hD := hD0.self (sz := s.heap.size)
  generalize hAe : va_A [(h0, .inr (0, [.ref h1, .ref h2, .ref h3, .ref h4, .ref h5, .ref h6, .int a0, .int a1, .int a2, .int a3])), (h6, .inl (cI, 9, .inl g5)), (h7, .inr (7, [.ref h8, .ref h9, .ref h10, .ref h11, .ref h12, .ref h13, .int a4, .int a5, .int a6, .int a7, .int a8, .int a9, .int a10, .int a11])), (h8, .inl (cI, 9, .inl g6)), (h9, .inl (cI, 9, .inl g7))] s.heap.size = A at hD ⊢
  have hA : ∀ q : Nat, s.heap.size ≤ q → A q := fun q h => by rw [← hAe]; exact Or.inr h
  have hP : va_P (dC, dI) vwCl [(h0, .inr (0, [.ref h1, .ref h2, .ref h3, .ref h4, .ref h5, .ref h6, .int a0, .int a1, .int a2, .int a3])), (h6, .inl (cI, 9, .inl g5)), (h7, .inr (7, [.ref h8, .ref h9, .ref h10, .ref h11, .ref h12, .ref h13, .int a4, .int a5, .int a6, .int a7, .int a8, .int a9, .int a10, .int a11])), (h8, .inl (cI, 9, .inl g6)), (h9, .inl (cI, 9, .inl g7))] s.heap := hP
  have hl := lv_entry ([.ref h0, .ref h7]) (n := 4) (Nat.le_of_ble_eq_true rfl)
  rw [lg_entry_eq]
  generalize (lg_sl ([.ref h0, .ref h7]) ++ List.replicate (4 - (lg_sl ([.ref h0, .ref h7])).length) Slot.unset).toArray = ls at hl ⊢
  have hl : lv_has ls 4 [(0, .ref h0), (1, .ref h7)] := hl
  refine W_gen (A := A) hP (fun H locs hP hS => ?_)
  refine lv_iconst (v := 0) hx hb dX0_findTwins_0 (by decide) ?_
  refine lv_istore_n (lv' := [(2, .int 0), (0, .ref h0), (1, .ref h7)]) hx hb dX0_findTwins_1 rfl hl (by decide) rfl (fun ls hl => ?_)
  refine W_loopM (σ := (Nat → Int32) × Int32) (fun u H locs ls => va_P (dC, dI) vwCl [(h0, .inr (0, [.ref h1, .ref h2, .ref h3, .ref h4, .ref h5, .ref h6, .int a0, .int a1, .int a2, .int a3])), (h6, .inl (cI, 9, .inl u.1)), (h7, .inr (7, [.ref h8, .ref h9, .ref h10, .ref h11, .ref h12, .ref h13, .int a4, .int a5, .int a6, .int a7, .int a8, .int a9, .int a10, .int a11])), (h8, .inl (cI, 9, .inl g6)), (h9, .inl (cI, 9, .inl g7))] H ∧ va_D A [(h0, .inr (0, [.ref h1, .ref h2, .ref h3, .ref h4, .ref h5, .ref h6, .int a0, .int a1, .int a2, .int a3])), (h6, .inl (cI, 9, .inl u.1)), (h7, .inr (7, [.ref h8, .ref h9, .ref h10, .ref h11, .ref h12, .ref h13, .int a4, .int a5, .int a6, .int a7, .int a8, .int a9, .int a10, .int a11])), (h8, .inl (cI, 9, .inl g6)), (h9, .inl (cI, 9, .inl g7))] ∧ va_S A s.heap H locs ∧ lv_has ls 4 [(2, .int u.2), (0, .ref h0), (1, .ref h7)] ∧ rg (0) (9) u.2) (fun u => ((9) - u.2.toInt).toNat) 2 [] ?_ (g5, 0) H locs ls ⟨hP, hD, hS, hl, (rg_mono (rg_k (x := 0) (c := 0) (by decide)) (by decide) (by decide))⟩
  rintro ⟨f_1450, x_1451⟩ H locs ls ⟨hP, hD, hS, hl, hx_1451⟩ ih_1731
  replace hP : va_P (dC, dI) vwCl [(h0, .inr (0, [.ref h1, .ref h2, .ref h3, .ref h4, .ref h5, .ref h6, .int a0, .int a1, .int a2, .int a3])), (h6, .inl (cI, 9, .inl f_1450)), (h7, .inr (7, [.ref h8, .ref h9, .ref h10, .ref h11, .ref h12, .ref h13, .int a4, .int a5, .int a6, .int a7, .int a8, .int a9, .int a10, .int a11])), (h8, .inl (cI, 9, .inl g6)), (h9, .inl (cI, 9, .inl g7))] H := hP
  replace hD : va_D A [(h0, .inr (0, [.ref h1, .ref h2, .ref h3, .ref h4, .ref h5, .ref h6, .int a0, .int a1, .int a2, .int a3])), (h6, .inl (cI, 9, .inl f_1450)), (h7, .inr (7, [.ref h8, .ref h9, .ref h10, .ref h11, .ref h12, .ref h13, .int a4, .int a5, .int a6, .int a7, .int a8, .int a9, .int a10, .int a11])), (h8, .inl (cI, 9, .inl g6)), (h9, .inl (cI, 9, .inl g7))] := hD
  replace hl : lv_has ls 4 [(2, .int x_1451), (0, .ref h0), (1, .ref h7)] := hl
  replace hx_1451 : rg (0) (9) x_1451 := hx_1451
  refine lv_iload_n hx hb dX0_findTwins_2 rfl (lv_at hl 0 rfl) ?_
  refine lv_bipush (v := 9) hx hb dX0_findTwins_3 (by decide) ?_
  refine lv_icmp_ge (tgt := 75) hx hb dX0_findTwins_5 (by decide) (fun c_1732 => ?_) (fun c_1732 => ?_)
  · skip
    have h_1733 : rg (9) (9) x_1451 := by have ha := hx_1451; have hb_ := (rg_k (x := 9) (c := 9) (by decide)); simp only [rg, fa_lt, fa_le, fa_eq, (by decide : (9 : Int32).toInt = 9)] at ha hb_ c_1732; simp only [rg]; omega
    have hP9 := hP.sub (ws' := [(h0, .inr (0, [.ref h1, .ref h2, .ref h3, .ref h4, .ref h5, .ref h6, .int a0, .int a1, .int a2, .int a3])), (h6, .inl (cI, 9, .inl f_1450)), (h7, .inr (7, [.ref h8, .ref h9, .ref h10, .ref h11, .ref h12, .ref h13, .int a4, .int a5, .int a6, .int a7, .int a8, .int a9, .int a10, .int a11])), (h8, .inl (cI, 9, .inl g6)), (h9, .inl (cI, 9, .inl g7))]) [0, 1, 2, 3, 4] rfl
    have hD9 := hD.sub (ws' := [(h0, .inr (0, [.ref h1, .ref h2, .ref h3, .ref h4, .ref h5, .ref h6, .int a0, .int a1, .int a2, .int a3])), (h6, .inl (cI, 9, .inl f_1450)), (h7, .inr (7, [.ref h8, .ref h9, .ref h10, .ref h11, .ref h12, .ref h13, .int a4, .int a5, .int a6, .int a7, .int a8, .int a9, .int a10, .int a11])), (h8, .inl (cI, 9, .inl g6)), (h9, .inl (cI, 9, .inl g7))]) [0, 1, 2, 3, 4] (by decide) rfl
    exact W.vret hx hb hr (fun t ht hW => ⟨⟨(), rfl, trivial, ⟨f_1450, by rw [ht]; exact hP9, hD9⟩⟩, hS.F ht⟩) hS.2.2 dX0_findTwins_75
  · skip
    have h_1734 : rg (0) (8) x_1451 := by have ha := hx_1451; have hb_ := (rg_k (x := 9) (c := 9) (by decide)); simp only [rg, fa_lt, fa_le, fa_eq, (by decide : (9 : Int32).toInt = 9)] at ha hb_ c_1732; simp only [rg]; omega
    refine lv_aload_n hx hb dX0_findTwins_8 rfl (lv_at hl 1 rfl) ?_
    refine va_get (D := (dC, dI)) (ci := 0) (v := .ref h6) (C := RX0) (T := TX0) (N := 10) hx hb hts hinX0 hown hK hP 0 rfl rfl 5 (by decide) (hts (.fieldLink RX0 27 "MayRings$Families" "twins" "[I") (List.mem_of_getElem? (i := 1) rfl)) (fun _ h9 => h9) rfl dX0_findTwins_9 ?_
    refine lv_iload_n hx hb dX0_findTwins_12 rfl (lv_at hl 0 rfl) ?_
    refine lv_iconst (v := 0) hx hb dX0_findTwins_13 (by decide) ?_
    refine va_iast hx hb hK hP hD hS 1 1 rfl rfl (rg_in (n := 9) (rg_mono h_1734 (by decide) (by decide))) dX0_findTwins_14 (fun H locs hP hD hS => ?_)
    obtain ⟨f_1735, ef_1735⟩ : ∃ f : Nat → Int32, f = upd f_1450 (x_1451 : Int32).toNatClampNeg 0 := ⟨_, rfl⟩
    rw [← ef_1735] at hP hD
    clear ef_1735
    replace hP : va_P (dC, dI) vwCl [(h0, .inr (0, [.ref h1, .ref h2, .ref h3, .ref h4, .ref h5, .ref h6, .int a0, .int a1, .int a2, .int a3])), (h6, .inl (cI, 9, .inl f_1735)), (h7, .inr (7, [.ref h8, .ref h9, .ref h10, .ref h11, .ref h12, .ref h13, .int a4, .int a5, .int a6, .int a7, .int a8, .int a9, .int a10, .int a11])), (h8, .inl (cI, 9, .inl g6)), (h9, .inl (cI, 9, .inl g7))] H := hP
    replace hD : va_D A [(h0, .inr (0, [.ref h1, .ref h2, .ref h3, .ref h4, .ref h5, .ref h6, .int a0, .int a1, .int a2, .int a3])), (h6, .inl (cI, 9, .inl f_1735)), (h7, .inr (7, [.ref h8, .ref h9, .ref h10, .ref h11, .ref h12, .ref h13, .int a4, .int a5, .int a6, .int a7, .int a8, .int a9, .int a10, .int a11])), (h8, .inl (cI, 9, .inl g6)), (h9, .inl (cI, 9, .inl g7))] := hD
    refine lv_iconst (v := 0) hx hb dX0_findTwins_15 (by decide) ?_
    refine lv_istore_n (lv' := [(3, .int 0), (2, .int x_1451), (0, .ref h0), (1, .ref h7)]) hx hb dX0_findTwins_16 rfl hl (by decide) rfl (fun ls hl => ?_)
    refine W_loopM (σ := Int32 × (Nat → Int32)) (fun u H locs ls => va_P (dC, dI) vwCl [(h0, .inr (0, [.ref h1, .ref h2, .ref h3, .ref h4, .ref h5, .ref h6, .int a0, .int a1, .int a2, .int a3])), (h6, .inl (cI, 9, .inl u.2)), (h7, .inr (7, [.ref h8, .ref h9, .ref h10, .ref h11, .ref h12, .ref h13, .int a4, .int a5, .int a6, .int a7, .int a8, .int a9, .int a10, .int a11])), (h8, .inl (cI, 9, .inl g6)), (h9, .inl (cI, 9, .inl g7))] H ∧ va_D A [(h0, .inr (0, [.ref h1, .ref h2, .ref h3, .ref h4, .ref h5, .ref h6, .int a0, .int a1, .int a2, .int a3])), (h6, .inl (cI, 9, .inl u.2)), (h7, .inr (7, [.ref h8, .ref h9, .ref h10, .ref h11, .ref h12, .ref h13, .int a4, .int a5, .int a6, .int a7, .int a8, .int a9, .int a10, .int a11])), (h8, .inl (cI, 9, .inl g6)), (h9, .inl (cI, 9, .inl g7))] ∧ va_S A s.heap H locs ∧ lv_has ls 4 [(3, .int u.1), (2, .int x_1451), (0, .ref h0), (1, .ref h7)] ∧ rg (0) (8) u.1) (fun u => ((8) - u.1.toInt).toNat) 17 [] ?_ (0, f_1735) H locs ls ⟨hP, hD, hS, hl, (rg_mono (rg_k (x := 0) (c := 0) (by decide)) (by decide) (by decide))⟩
    rintro ⟨x_1954, f_1955⟩ H locs ls ⟨hP, hD, hS, hl, hx_1954⟩ ih_1983
    replace hP : va_P (dC, dI) vwCl [(h0, .inr (0, [.ref h1, .ref h2, .ref h3, .ref h4, .ref h5, .ref h6, .int a0, .int a1, .int a2, .int a3])), (h6, .inl (cI, 9, .inl f_1955)), (h7, .inr (7, [.ref h8, .ref h9, .ref h10, .ref h11, .ref h12, .ref h13, .int a4, .int a5, .int a6, .int a7, .int a8, .int a9, .int a10, .int a11])), (h8, .inl (cI, 9, .inl g6)), (h9, .inl (cI, 9, .inl g7))] H := hP
    replace hD : va_D A [(h0, .inr (0, [.ref h1, .ref h2, .ref h3, .ref h4, .ref h5, .ref h6, .int a0, .int a1, .int a2, .int a3])), (h6, .inl (cI, 9, .inl f_1955)), (h7, .inr (7, [.ref h8, .ref h9, .ref h10, .ref h11, .ref h12, .ref h13, .int a4, .int a5, .int a6, .int a7, .int a8, .int a9, .int a10, .int a11])), (h8, .inl (cI, 9, .inl g6)), (h9, .inl (cI, 9, .inl g7))] := hD
    replace hl : lv_has ls 4 [(3, .int x_1954), (2, .int x_1451), (0, .ref h0), (1, .ref h7)] := hl
    replace hx_1954 : rg (0) (8) x_1954 := hx_1954
    refine lv_iload_n hx hb dX0_findTwins_17 rfl (lv_at hl 0 rfl) ?_
    refine lv_iload_n hx hb dX0_findTwins_18 rfl (lv_at hl 1 rfl) ?_
    refine lv_icmp_ge (tgt := 69) hx hb dX0_findTwins_19 (by decide) (fun c_1984 => ?_) (fun c_1984 => ?_)
    · skip
      obtain ⟨x_1985, ex_1985⟩ : ∃ y : Int32, y = x_1451 + Int32.ofInt (1) := ⟨_, rfl⟩
      have hx_1985 : rg (1) (9) x_1985 := by rw [ex_1985]; exact rg_mono (rg_add h_1734 (rg_k (x := Int32.ofInt (1)) (c := 1) (by decide)) (by decide) (by decide)) (by decide) (by decide)
      have qx_1985 : x_1985.toInt = x_1451.toInt + (1) := by rw [ex_1985]; exact rg_addE h_1734 (rg_k (x := Int32.ofInt (1)) (c := 1) (by decide)) (by decide) (by decide) (by decide)
      refine lv_iinc (v := x_1985) (lv' := [(2, .int x_1985), (3, .int x_1954), (0, .ref h0), (1, .ref h7)]) hx hb dX0_findTwins_69 hl (k := 1) rfl (ex_1985.symm) (by decide) rfl (fun ls hl => ?_)
      clear ex_1985
      refine lv_goto (tgt := 2) hx hb dX0_findTwins_72 (by decide) ?_
      exact ih_1731 (f_1955, x_1985) H locs ls ⟨hP.sub (ws' := [(h0, .inr (0, [.ref h1, .ref h2, .ref h3, .ref h4, .ref h5, .ref h6, .int a0, .int a1, .int a2, .int a3])), (h6, .inl (cI, 9, .inl f_1955)), (h7, .inr (7, [.ref h8, .ref h9, .ref h10, .ref h11, .ref h12, .ref h13, .int a4, .int a5, .int a6, .int a7, .int a8, .int a9, .int a10, .int a11])), (h8, .inl (cI, 9, .inl g6)), (h9, .inl (cI, 9, .inl g7))]) [0, 1, 2, 3, 4] rfl, hD.sub (ws' := [(h0, .inr (0, [.ref h1, .ref h2, .ref h3, .ref h4, .ref h5, .ref h6, .int a0, .int a1, .int a2, .int a3])), (h6, .inl (cI, 9, .inl f_1955)), (h7, .inr (7, [.ref h8, .ref h9, .ref h10, .ref h11, .ref h12, .ref h13, .int a4, .int a5, .int a6, .int a7, .int a8, .int a9, .int a10, .int a11])), (h8, .inl (cI, 9, .inl g6)), (h9, .inl (cI, 9, .inl g7))]) [0, 1, 2, 3, 4] (by decide) rfl, hS, lv_sub hl [0, 2, 3] rfl, (rg_mono hx_1985 (by decide) (by decide))⟩ (by show ((9) - x_1985.toInt).toNat < ((9) - x_1451.toInt).toNat; have ha := h_1734; simp only [rg] at ha; omega)
    · skip
      have h_1986 : rg (0) (7) x_1954 := by have ha := hx_1954; have hb_ := h_1734; simp only [rg, fa_lt, fa_le, fa_eq] at ha hb_ c_1984; simp only [rg]; omega
      have h_1987 : rg (1) (8) x_1451 := by have ha := h_1986; have hb_ := h_1734; have hc_ := c_1984; simp only [rg, fa_lt, fa_le, fa_eq] at ha hb_ hc_; simp only [rg]; omega
      have h_1988 : rg (1) (8) x_1451 := by have ha := hx_1954; have hb_ := h_1734; simp only [rg, fa_lt, fa_le, fa_eq] at ha hb_ c_1984; simp only [rg]; omega
      refine lv_aload_n hx hb dX0_findTwins_22 rfl (lv_at hl 3 rfl) ?_
      refine va_get (D := (dC, dI)) (ci := 7) (v := .int a4) (C := RX7) (T := TX7) (N := 14) hx hb hts hinX7 hown hK hP 2 rfl rfl 6 (by decide) (hts (.fieldLink RX0 52 "MayRings$Ways" "houses" "I") (List.mem_of_getElem? (i := 2) rfl)) (fun _ h9 => h9) rfl dX0_findTwins_23 ?_
      refine lv_iload_n hx hb dX0_findTwins_26 rfl (lv_at hl 1 rfl) ?_
      refine lv_ishr hx hb dX0_findTwins_27 ?_
      refine lv_topi (fun x_1989 ex_1989 => ?_)
      have hx_1989 : rg (0) (511) x_1989 := by rw [ex_1989]; exact rg_mono (rg_shr (b := 511) (rg_mono ha4 (by decide) (by decide))) (by decide) (by decide)
      have kx_1989_0 : rg 1 2147483647 x_1989 → rg 1 (511) a4 := fun hq => rg_shrP ha4 (ex_1989 ▸ hq)
      refine lv_aload_n hx hb dX0_findTwins_28 rfl (lv_at hl 3 rfl) ?_
      refine va_get (D := (dC, dI)) (ci := 7) (v := .int a4) (C := RX7) (T := TX7) (N := 14) hx hb hts hinX7 hown hK hP 2 rfl rfl 6 (by decide) (hts (.fieldLink RX0 52 "MayRings$Ways" "houses" "I") (List.mem_of_getElem? (i := 2) rfl)) (fun _ h9 => h9) rfl dX0_findTwins_29 ?_
      refine lv_iload_n hx hb dX0_findTwins_32 rfl (lv_at hl 0 rfl) ?_
      refine lv_ishr hx hb dX0_findTwins_33 ?_
      refine lv_topi (fun x_1990 ex_1990 => ?_)
      have hx_1990 : rg (0) (511) x_1990 := by rw [ex_1990]; exact rg_mono (rg_shr (b := 511) (rg_mono ha4 (by decide) (by decide))) (by decide) (by decide)
      have kx_1990_0 : rg 1 2147483647 x_1990 → rg 1 (511) a4 := fun hq => rg_shrP ha4 (ex_1990 ▸ hq)
      refine lv_iand hx hb dX0_findTwins_34 ?_
      refine lv_topi (fun x_1991 ex_1991 => ?_)
      have hx_1991 : rg (0) (511) x_1991 := by rw [ex_1991]; exact rg_mono (rg_andl (b := 511) (rg_mono hx_1989 (by decide) (by decide))) (by decide) (by decide)
      have kx_1991_0 : rg 1 2147483647 x_1991 → rg 1 (511) x_1989 := fun hq => rg_andP hx_1989 (ex_1991 ▸ hq)
      have kx_1991_1 : rg 1 2147483647 x_1991 → rg 1 (511) x_1990 := fun hq => rg_andP' hx_1990 (ex_1991 ▸ hq)
      refine lv_iconst (v := 1) hx hb dX0_findTwins_35 (by decide) ?_
      refine lv_iand hx hb dX0_findTwins_36 ?_
      refine lv_topi (fun x_1992 ex_1992 => ?_)
      have hx_1992 : rg (0) (1) x_1992 := by rw [ex_1992]; exact rg_mono (rg_andr (b := 1) (rg_mono (rg_k (x := 1) (c := 1) (by decide)) (by decide) (by decide))) (by decide) (by decide)
      have kx_1992_0 : rg 1 2147483647 x_1992 → rg 1 (511) x_1991 := fun hq => rg_andP hx_1991 (ex_1992 ▸ hq)
      refine lv_iconst (v := 1) hx hb dX0_findTwins_37 (by decide) ?_
      refine lv_icmp_ne (tgt := 63) hx hb dX0_findTwins_38 (by decide) (fun c_1993 => ?_) (fun c_1993 => ?_)
      · skip
        have h_1994 : rg (0) (0) x_1992 := by have ha := hx_1992; have hb_ := (rg_k (x := 1) (c := 1) (by decide)); simp only [rg, fa_lt, fa_le, fa_eq, (by decide : (1 : Int32).toInt = 1)] at ha hb_ c_1993; simp only [rg]; omega
        obtain ⟨x_1995, ex_1995⟩ : ∃ y : Int32, y = x_1954 + Int32.ofInt (1) := ⟨_, rfl⟩
        have hx_1995 : rg (1) (8) x_1995 := by rw [ex_1995]; exact rg_mono (rg_add h_1986 (rg_k (x := Int32.ofInt (1)) (c := 1) (by decide)) (by decide) (by decide)) (by decide) (by decide)
        have qx_1995 : x_1995.toInt = x_1954.toInt + (1) := by rw [ex_1995]; exact rg_addE h_1986 (rg_k (x := Int32.ofInt (1)) (c := 1) (by decide)) (by decide) (by decide) (by decide)
        refine lv_iinc (v := x_1995) (lv' := [(3, .int x_1995), (2, .int x_1451), (0, .ref h0), (1, .ref h7)]) hx hb dX0_findTwins_63 hl (k := 0) rfl (ex_1995.symm) (by decide) rfl (fun ls hl => ?_)
        clear ex_1995
        refine lv_goto (tgt := 17) hx hb dX0_findTwins_66 (by decide) ?_
        exact ih_1983 (x_1995, f_1955) H locs ls ⟨hP.sub (ws' := [(h0, .inr (0, [.ref h1, .ref h2, .ref h3, .ref h4, .ref h5, .ref h6, .int a0, .int a1, .int a2, .int a3])), (h6, .inl (cI, 9, .inl f_1955)), (h7, .inr (7, [.ref h8, .ref h9, .ref h10, .ref h11, .ref h12, .ref h13, .int a4, .int a5, .int a6, .int a7, .int a8, .int a9, .int a10, .int a11])), (h8, .inl (cI, 9, .inl g6)), (h9, .inl (cI, 9, .inl g7))]) [0, 1, 2, 3, 4] rfl, hD.sub (ws' := [(h0, .inr (0, [.ref h1, .ref h2, .ref h3, .ref h4, .ref h5, .ref h6, .int a0, .int a1, .int a2, .int a3])), (h6, .inl (cI, 9, .inl f_1955)), (h7, .inr (7, [.ref h8, .ref h9, .ref h10, .ref h11, .ref h12, .ref h13, .int a4, .int a5, .int a6, .int a7, .int a8, .int a9, .int a10, .int a11])), (h8, .inl (cI, 9, .inl g6)), (h9, .inl (cI, 9, .inl g7))]) [0, 1, 2, 3, 4] (by decide) rfl, hS, lv_sub hl [0, 1, 2, 3] rfl, (rg_mono hx_1995 (by decide) (by decide))⟩ (by show ((8) - x_1995.toInt).toNat < ((8) - x_1954.toInt).toNat; have ha := h_1986; simp only [rg] at ha; omega)
      · skip
        have h_1996 : rg (1) (1) x_1992 := by have ha := hx_1992; have hb_ := (rg_k (x := 1) (c := 1) (by decide)); simp only [rg, fa_lt, fa_le, fa_eq, (by decide : (1 : Int32).toInt = 1)] at ha hb_ c_1993; simp only [rg]; omega
        have h_1997 : rg (1) (511) x_1991 := rg_meet hx_1991 (kx_1992_0 (rg_mono h_1996 (by decide) (by decide))) (by decide) (by decide)
        have h_1998 : rg (1) (511) x_1989 := rg_meet hx_1989 (kx_1991_0 (rg_mono h_1997 (by decide) (by decide))) (by decide) (by decide)
        have h_1999 : rg (1) (511) a4 := rg_meet ha4 (kx_1989_0 (rg_mono h_1998 (by decide) (by decide))) (by decide) (by decide)
        have h_2000 : rg (1) (511) x_1990 := rg_meet hx_1990 (kx_1991_1 (rg_mono h_1997 (by decide) (by decide))) (by decide) (by decide)
        refine lv_aload_n hx hb dX0_findTwins_41 rfl (lv_at hl 2 rfl) ?_
        refine lv_aload_n hx hb dX0_findTwins_42 rfl (lv_at hl 3 rfl) ?_
        refine lv_iload_n hx hb dX0_findTwins_43 rfl (lv_at hl 1 rfl) ?_
        refine lv_iload_n hx hb dX0_findTwins_44 rfl (lv_at hl 0 rfl) ?_
        have hPc := hP.sub (ws' := [(h0, .inr (0, [.ref h1, .ref h2, .ref h3, .ref h4, .ref h5, .ref h6, .int a0, .int a1, .int a2, .int a3])), (h7, .inr (7, [.ref h8, .ref h9, .ref h10, .ref h11, .ref h12, .ref h13, .int a4, .int a5, .int a6, .int a7, .int a8, .int a9, .int a10, .int a11])), (h8, .inl (cI, 9, .inl g6)), (h9, .inl (cI, 9, .inl g7))]) [0, 2, 3, 4] rfl
        have hDc := hD.sub (ws' := [(h0, .inr (0, [.ref h1, .ref h2, .ref h3, .ref h4, .ref h5, .ref h6, .int a0, .int a1, .int a2, .int a3])), (h7, .inr (7, [.ref h8, .ref h9, .ref h10, .ref h11, .ref h12, .ref h13, .int a4, .int a5, .int a6, .int a7, .int a8, .int a9, .int a10, .int a11])), (h8, .inl (cI, 9, .inl g6)), (h9, .inl (cI, 9, .inl g7))]) [0, 2, 3, 4] (by decide) rfl
        have hFc := va_free (wc := [(h0, .inr (0, [.ref h1, .ref h2, .ref h3, .ref h4, .ref h5, .ref h6, .int a0, .int a1, .int a2, .int a3])), (h7, .inr (7, [.ref h8, .ref h9, .ref h10, .ref h11, .ref h12, .ref h13, .int a4, .int a5, .int a6, .int a7, .int a8, .int a9, .int a10, .int a11])), (h8, .inl (cI, 9, .inl g6)), (h9, .inl (cI, 9, .inl g7))]) hD hS hA [0, 2, 3, 4] rfl
        refine va_calli (va_runV (As := [.ref h7, .int x_1451, .int x_1954]) (rest := []) ⟨hx, hb, hml, hown, hts⟩ (c_s_X0_areTwins l dC dI cB cI cJ cZ cP h0 h1 h2 h3 h4 h5 h6 a0 a1 a2 (rg_mono ha2 (by decide) (by decide)) a3 h7 h8 g6 hg6 h9 g7 hg7 h10 h11 h12 h13 a4 a5 a6 a7 a8 a9 a10 a11 x_1451 (rg_mono h_1988 (by decide) (by decide)) x_1954 (rg_mono h_1986 (by decide) (by decide)) H.size) (cwV 3 hts (gd_V (List.mem_of_getElem? (i := 3) rfl) (List.mem_of_getElem? (i := 4) rfl) (List.mem_of_getElem? (i := 5) rfl) (List.mem_of_getElem? (i := 6) rfl) (gd_mono k_s_X0_areTwins (fun _ h => List.mem_cons_of_mem _ (List.mem_append_right _ (List.mem_append_right _ (List.mem_append_right _ (List.mem_append_left _ h))))))) rfl rfl rfl (by decide +kernel) ⟨Nat.le_of_ble_eq_true rfl, Nat.le_of_ble_eq_true rfl⟩) ⟨fun a U g mk q => by obtain ⟨q0, q1, qP, qK, qD⟩ := q; exact ⟨q0, q1, qP, va_K.moved (u := U) (U := U.calling g mk a) (Vm.Alike.refl U.vm) qK, qD⟩, va_recv hK hPc (ci := 0) (q0 := 0) rfl rfl, fun U hU hW => ⟨rfl, by rw [hU], by rw [hU]; exact hPc, va_K.moved hW.alike hK, hDc.weaken (fun _ _ _ _ => trivial)⟩⟩ rfl rfl hl.1 rfl (lv_room (Nat.le_of_ble_eq_true rfl)) dX0_findTwins_45 ⟨Nat.le_of_ble_eq_true rfl, Nat.le_of_ble_eq_true rfl⟩) hS (fun q _ h => hFc q h) hFc (fun r_2001 u t H1 locs ht hvm hw hB hz1 hk1 hS => ?_)
        obtain ⟨hP1, hD1⟩ := hB
        rw [ht] at hP1
        obtain ⟨hP, hD⟩ := va_join (wr := [(h6, .inl (cI, 9, .inl f_1955))]) (w1 := [(h0, .inr (0, [.ref h1, .ref h2, .ref h3, .ref h4, .ref h5, .ref h6, .int a0, .int a1, .int a2, .int a3])), (h7, .inr (7, [.ref h8, .ref h9, .ref h10, .ref h11, .ref h12, .ref h13, .int a4, .int a5, .int a6, .int a7, .int a8, .int a9, .int a10, .int a11])), (h8, .inl (cI, 9, .inl g6)), (h9, .inl (cI, 9, .inl g7))]) hP hD [0, 2, 3, 4] [1] rfl rfl (by decide) (by decide) hk1 hFc hP1 hD1
        generalize H1 = H at hP hS ⊢
        replace hP : va_P (dC, dI) vwCl [(h6, .inl (cI, 9, .inl f_1955)), (h0, .inr (0, [.ref h1, .ref h2, .ref h3, .ref h4, .ref h5, .ref h6, .int a0, .int a1, .int a2, .int a3])), (h7, .inr (7, [.ref h8, .ref h9, .ref h10, .ref h11, .ref h12, .ref h13, .int a4, .int a5, .int a6, .int a7, .int a8, .int a9, .int a10, .int a11])), (h8, .inl (cI, 9, .inl g6)), (h9, .inl (cI, 9, .inl g7))] H := hP
        replace hD : va_D A [(h6, .inl (cI, 9, .inl f_1955)), (h0, .inr (0, [.ref h1, .ref h2, .ref h3, .ref h4, .ref h5, .ref h6, .int a0, .int a1, .int a2, .int a3])), (h7, .inr (7, [.ref h8, .ref h9, .ref h10, .ref h11, .ref h12, .ref h13, .int a4, .int a5, .int a6, .int a7, .int a8, .int a9, .int a10, .int a11])), (h8, .inl (cI, 9, .inl g6)), (h9, .inl (cI, 9, .inl g7))] := hD
        have hr_2001 : rg (0) (1) r_2001 := hw
        refine lv_if_eq (tgt := 63) hx hb dX0_findTwins_48 (by decide) (fun c_2002 => ?_) (fun c_2002 => ?_)
        · skip
          have h_2003 : rg (0) (0) r_2001 := by have ha := hr_2001; have hb_ := (rg_k (x := 0) (c := 0) (by decide)); simp only [rg, fa_lt, fa_le, fa_eq, (by decide : (0 : Int32).toInt = 0)] at ha hb_ c_2002; simp only [rg]; omega
          obtain ⟨x_2004, ex_2004⟩ : ∃ y : Int32, y = x_1954 + Int32.ofInt (1) := ⟨_, rfl⟩
          have hx_2004 : rg (1) (8) x_2004 := by rw [ex_2004]; exact rg_mono (rg_add h_1986 (rg_k (x := Int32.ofInt (1)) (c := 1) (by decide)) (by decide) (by decide)) (by decide) (by decide)
          have qx_2004 : x_2004.toInt = x_1954.toInt + (1) := by rw [ex_2004]; exact rg_addE h_1986 (rg_k (x := Int32.ofInt (1)) (c := 1) (by decide)) (by decide) (by decide) (by decide)
          refine lv_iinc (v := x_2004) (lv' := [(3, .int x_2004), (2, .int x_1451), (0, .ref h0), (1, .ref h7)]) hx hb dX0_findTwins_63 hl (k := 0) rfl (ex_2004.symm) (by decide) rfl (fun ls hl => ?_)
          clear ex_2004
          refine lv_goto (tgt := 17) hx hb dX0_findTwins_66 (by decide) ?_
          exact ih_1983 (x_2004, f_1955) H locs ls ⟨hP.sub (ws' := [(h0, .inr (0, [.ref h1, .ref h2, .ref h3, .ref h4, .ref h5, .ref h6, .int a0, .int a1, .int a2, .int a3])), (h6, .inl (cI, 9, .inl f_1955)), (h7, .inr (7, [.ref h8, .ref h9, .ref h10, .ref h11, .ref h12, .ref h13, .int a4, .int a5, .int a6, .int a7, .int a8, .int a9, .int a10, .int a11])), (h8, .inl (cI, 9, .inl g6)), (h9, .inl (cI, 9, .inl g7))]) [1, 0, 2, 3, 4] rfl, hD.sub (ws' := [(h0, .inr (0, [.ref h1, .ref h2, .ref h3, .ref h4, .ref h5, .ref h6, .int a0, .int a1, .int a2, .int a3])), (h6, .inl (cI, 9, .inl f_1955)), (h7, .inr (7, [.ref h8, .ref h9, .ref h10, .ref h11, .ref h12, .ref h13, .int a4, .int a5, .int a6, .int a7, .int a8, .int a9, .int a10, .int a11])), (h8, .inl (cI, 9, .inl g6)), (h9, .inl (cI, 9, .inl g7))]) [1, 0, 2, 3, 4] (by decide) rfl, hS, lv_sub hl [0, 1, 2, 3] rfl, (rg_mono hx_2004 (by decide) (by decide))⟩ (by show ((8) - x_2004.toInt).toNat < ((8) - x_1954.toInt).toNat; have ha := h_1986; simp only [rg] at ha; omega)
        · skip
          have h_2005 : rg (1) (1) r_2001 := by have ha := hr_2001; have hb_ := (rg_k (x := 0) (c := 0) (by decide)); simp only [rg, fa_lt, fa_le, fa_eq, (by decide : (0 : Int32).toInt = 0)] at ha hb_ c_2002; simp only [rg]; omega
          refine lv_aload_n hx hb dX0_findTwins_51 rfl (lv_at hl 2 rfl) ?_
          refine va_get (D := (dC, dI)) (ci := 0) (v := .ref h6) (C := RX0) (T := TX0) (N := 10) hx hb hts hinX0 hown hK hP 1 rfl rfl 5 (by decide) (hts (.fieldLink RX0 27 "MayRings$Families" "twins" "[I") (List.mem_of_getElem? (i := 1) rfl)) (fun _ h9 => h9) rfl dX0_findTwins_52 ?_
          refine lv_iload_n hx hb dX0_findTwins_55 rfl (lv_at hl 1 rfl) ?_
          refine lv_dup2_11 hx hb dX0_findTwins_56 rfl rfl ?_
          refine va_iald hx hb hK hP 0 1 rfl rfl (rg_in (n := 9) (rg_mono h_1988 (by decide) (by decide))) dX0_findTwins_57 ?_
          refine lv_topi (fun x_2006 ex_2006 => ?_)
          refine lv_iconst (v := 1) hx hb dX0_findTwins_58 (by decide) ?_
          refine lv_iload_n hx hb dX0_findTwins_59 rfl (lv_at hl 0 rfl) ?_
          refine lv_ishl hx hb dX0_findTwins_60 ?_
          refine lv_topi (fun x_2007 ex_2007 => ?_)
          have hx_2007 : rg (1) (128) x_2007 := by rw [ex_2007]; exact rg_mono (rg_shl1 7 (rg_mono h_1986 (by decide) (by decide)) (by decide)) (by decide) (by decide)
          refine lv_ior hx hb dX0_findTwins_61 ?_
          refine lv_topi (fun x_2008 ex_2008 => ?_)
          refine va_iast hx hb hK hP hD hS 0 1 rfl rfl (rg_in (n := 9) (rg_mono h_1988 (by decide) (by decide))) dX0_findTwins_62 (fun H locs hP hD hS => ?_)
          obtain ⟨f_2009, ef_2009⟩ : ∃ f : Nat → Int32, f = upd f_1955 (x_1451 : Int32).toNatClampNeg x_2008 := ⟨_, rfl⟩
          rw [← ef_2009] at hP hD
          clear ef_2009
          replace hP : va_P (dC, dI) vwCl [(h6, .inl (cI, 9, .inl f_2009)), (h0, .inr (0, [.ref h1, .ref h2, .ref h3, .ref h4, .ref h5, .ref h6, .int a0, .int a1, .int a2, .int a3])), (h7, .inr (7, [.ref h8, .ref h9, .ref h10, .ref h11, .ref h12, .ref h13, .int a4, .int a5, .int a6, .int a7, .int a8, .int a9, .int a10, .int a11])), (h8, .inl (cI, 9, .inl g6)), (h9, .inl (cI, 9, .inl g7))] H := hP
          replace hD : va_D A [(h6, .inl (cI, 9, .inl f_2009)), (h0, .inr (0, [.ref h1, .ref h2, .ref h3, .ref h4, .ref h5, .ref h6, .int a0, .int a1, .int a2, .int a3])), (h7, .inr (7, [.ref h8, .ref h9, .ref h10, .ref h11, .ref h12, .ref h13, .int a4, .int a5, .int a6, .int a7, .int a8, .int a9, .int a10, .int a11])), (h8, .inl (cI, 9, .inl g6)), (h9, .inl (cI, 9, .inl g7))] := hD
          obtain ⟨x_2010, ex_2010⟩ : ∃ y : Int32, y = x_1954 + Int32.ofInt (1) := ⟨_, rfl⟩
          have hx_2010 : rg (1) (8) x_2010 := by rw [ex_2010]; exact rg_mono (rg_add h_1986 (rg_k (x := Int32.ofInt (1)) (c := 1) (by decide)) (by decide) (by decide)) (by decide) (by decide)
          have qx_2010 : x_2010.toInt = x_1954.toInt + (1) := by rw [ex_2010]; exact rg_addE h_1986 (rg_k (x := Int32.ofInt (1)) (c := 1) (by decide)) (by decide) (by decide) (by decide)
          refine lv_iinc (v := x_2010) (lv' := [(3, .int x_2010), (2, .int x_1451), (0, .ref h0), (1, .ref h7)]) hx hb dX0_findTwins_63 hl (k := 0) rfl (ex_2010.symm) (by decide) rfl (fun ls hl => ?_)
          clear ex_2010
          refine lv_goto (tgt := 17) hx hb dX0_findTwins_66 (by decide) ?_
          exact ih_1983 (x_2010, f_2009) H locs ls ⟨hP.sub (ws' := [(h0, .inr (0, [.ref h1, .ref h2, .ref h3, .ref h4, .ref h5, .ref h6, .int a0, .int a1, .int a2, .int a3])), (h6, .inl (cI, 9, .inl f_2009)), (h7, .inr (7, [.ref h8, .ref h9, .ref h10, .ref h11, .ref h12, .ref h13, .int a4, .int a5, .int a6, .int a7, .int a8, .int a9, .int a10, .int a11])), (h8, .inl (cI, 9, .inl g6)), (h9, .inl (cI, 9, .inl g7))]) [1, 0, 2, 3, 4] rfl, hD.sub (ws' := [(h0, .inr (0, [.ref h1, .ref h2, .ref h3, .ref h4, .ref h5, .ref h6, .int a0, .int a1, .int a2, .int a3])), (h6, .inl (cI, 9, .inl f_2009)), (h7, .inr (7, [.ref h8, .ref h9, .ref h10, .ref h11, .ref h12, .ref h13, .int a4, .int a5, .int a6, .int a7, .int a8, .int a9, .int a10, .int a11])), (h8, .inl (cI, 9, .inl g6)), (h9, .inl (cI, 9, .inl g7))]) [1, 0, 2, 3, 4] (by decide) rfl, hS, lv_sub hl [0, 1, 2, 3] rfl, (rg_mono hx_2010 (by decide) (by decide))⟩ (by show ((8) - x_2010.toInt).toNat < ((8) - x_1954.toInt).toNat; have ha := h_1986; simp only [rg] at ha; omega)
def v_fill : List Cond := Cond.code yJ7_fill_53178 cJ7_fill_53178 4 none :: ([] ++ ([]))
theorem k_fill : GoodIn lw_tbl v_fill := gd_c (List.mem_of_getElem? (i := 209) (by decide +kernel)) rfl (goodIn_app gd_nil gd_nil)
set_option maxHeartbeats 600000 in
set_option maxRecDepth 100000 in
/-- Arrays.fill: all places hold the number -/
theorem c_fill (l : Launch) (dC : Nat → ClassId) (dI : Nat → Nat → Nat) (cB cI cJ cZ cP : ClassId) (h0 : Nat) (k0 : Nat) (g0 : Nat → Int32) (p0 : Int32) (hk : k0 < 2 ^ 31) (sz : Nat) : Met l yJ7_fill_53178 v_fill ({ frames := 0, cells := 0, slots := 0, locals := 0 }) (va_Pc [.ref h0, .int p0] (fun U => U.heap.size = sz ∧ va_P (dC, dI) vwCl [(h0, .inl (cI, k0, .inl g0))] U.heap ∧ va_K (dC, dI) vwCl (ty5 cB cI cJ cZ cP) U ∧ va_D (fun _ => True) [(h0, .inl (cI, k0, .inl g0))])) (va_Qv (fun _ : Unit => True) (fun _ t => ∃ z0 : Nat → Int32, z0 = (fun _ => p0) ∧ va_P (dC, dI) vwCl [(h0, .inl (cI, k0, .inl z0))] t.heap ∧ va_D (va_A [(h0, .inl (cI, k0, .inl g0))] sz) [(h0, .inl (cI, k0, .inl z0))]) (va_A [(h0, .inl (cI, k0, .inl g0))] sz)) 0 0 (va_A [(h0, .inl (cI, k0, .inl g0))] sz) := by
  refine Met.ofW (cc := cJ7_fill_53178) (maxL := 4) (ret := none) (by decide) rfl ?_
  intro p e s m args below meth c s₁ B hml hv
  obtain ⟨rfl, hsz, hP, hK, hD0⟩ := hv
  have hx := B.exec
  have hb := B.bytes
  have hr := B.returns
  have hts := atoms_spec (ws := v_fill) B.pre
  have hlocks := B.notSynchronized
  subst hsz
  have hD := hD0.self (sz := s.heap.size)
  generalize hAe : va_A [(h0, .inl (cI, k0, .inl g0))] s.heap.size = A at hD ⊢
  have hP : va_P (dC, dI) vwCl [(h0, .inl (cI, k0, .inl g0))] s.heap := hP
  have hl := lv_entry ([.ref h0, .int p0]) (n := 4) (Nat.le_of_ble_eq_true rfl)
  rw [lg_entry_eq]
  generalize (lg_sl ([.ref h0, .int p0]) ++ List.replicate (4 - (lg_sl ([.ref h0, .int p0])).length) Slot.unset).toArray = ls at hl ⊢
  have hl : lv_has ls 4 [(0, .ref h0), (1, .int p0)] := hl
  refine W_gen (A := A) hP (fun H locs hP hS => ?_)
  refine lv_iconst (v := 0) hx hb dJ7_fill_53178_0 (by decide) ?_
  refine lv_istore_n (lv' := [(2, .int 0), (0, .ref h0), (1, .int p0)]) hx hb dJ7_fill_53178_1 rfl hl (by decide) rfl (fun ls hl => ?_)
  refine lv_aload_n hx hb dJ7_fill_53178_2 rfl (lv_at hl 1 rfl) ?_
  refine va_alen (v := nI k0) hx hb hK hP 0 1 rfl rfl rfl dJ7_fill_53178_3 ?_
  refine lv_istore_n (lv' := [(3, .int (nI k0)), (2, .int 0), (0, .ref h0), (1, .int p0)]) hx hb dJ7_fill_53178_4 rfl hl (by decide) rfl (fun ls hl => ?_)
  refine W_loop (σ := Nat → Int32) k0 (fun i u H locs ls => va_P (dC, dI) vwCl [(h0, .inl (cI, k0, .inl u))] H ∧ va_D A [(h0, .inl (cI, k0, .inl u))] ∧ va_S A s.heap H locs ∧ lv_has ls 4 [(2, .int (nI i)), (3, .int (nI k0)), (0, .ref h0), (1, .int p0)] ∧ ∀ j, j < i → u j = p0) 5 [] ?_ ?_ 0 (Nat.zero_le _) g0 H locs ls ⟨hP, hD, hS, lv_sub hl [1, 0, 2, 3] rfl, fun j hj => absurd hj (Nat.not_lt_zero j)⟩
  · rintro i hi f H locs ls ⟨hP, hD, hS, hl, hv⟩ ih
    have hl : lv_has ls 4 [(2, .int (nI i)), (3, .int (nI k0)), (0, .ref h0), (1, .int p0)] := hl
    refine lv_iload_n hx hb dJ7_fill_53178_5 rfl (lv_at hl 0 rfl) ?_
    refine lv_iload_n hx hb dJ7_fill_53178_6 rfl (lv_at hl 1 rfl) ?_
    refine lv_icmp_ge (tgt := 20) hx hb dJ7_fill_53178_7 (by decide) (fun cz => absurd ((nI_leI (a := k0) (b := i) (by omega) (by omega)).mp cz) (by omega)) (fun _ => ?_)
    refine lv_aload_n hx hb dJ7_fill_53178_10 rfl (lv_at hl 2 rfl) ?_
    refine lv_iload_n hx hb dJ7_fill_53178_11 rfl (lv_at hl 0 rfl) ?_
    refine lv_iload_n hx hb dJ7_fill_53178_12 rfl (lv_at hl 3 rfl) ?_
    refine va_iast hx hb hK hP hD hS 0 1 rfl rfl (vp_in_nI hi hk) dJ7_fill_53178_13 (fun H locs hP hD hS => ?_)
    refine lv_iinc (v := nI (i + 1)) (lv' := [(2, .int (nI (i + 1))), (3, .int (nI k0)), (0, .ref h0), (1, .int p0)]) hx hb dJ7_fill_53178_14 hl (k := 0) rfl (nI_1 i) (by decide) rfl (fun ls hl => ?_)
    refine lv_goto (tgt := 5) hx hb dJ7_fill_53178_17 (by decide) ?_
    refine ih (upd f (nI i).toNatClampNeg p0) H locs ls ⟨hP, hD, hS, hl, fun j hj => ?_⟩
    rw [nI_clamp (by omega)]
    rcases Nat.lt_succ_iff_lt_or_eq.mp hj with h | h
    · rw [pk_un (by omega)]; exact hv j h
    · subst h; exact pk_us
  · rintro f H locs ls ⟨hP, hD, hS, hl, hv⟩
    have hl : lv_has ls 4 [(2, .int (nI k0)), (3, .int (nI k0)), (0, .ref h0), (1, .int p0)] := hl
    refine lv_iload_n hx hb dJ7_fill_53178_5 rfl (lv_at hl 0 rfl) ?_
    refine lv_iload_n hx hb dJ7_fill_53178_6 rfl (lv_at hl 1 rfl) ?_
    refine lv_icmp_ge (tgt := 20) hx hb dJ7_fill_53178_7 (by decide) (fun _ => ?_) (fun cz => absurd (Int32.le_refl _) cz)
    have hP9 : va_P (dC, dI) vwCl [(h0, .inl (cI, k0, .inl (fun _ => p0)))] H := by
      intro k q hq
      match k, hq with
      | 0, hq =>
        cases hq
        have h1 : H[h0]? = some (vp_cell cI (k0, .inl f)) := hP 0 _ rfl
        show H[h0]? = some (vp_cell cI (k0, .inl (fun _ => p0)))
        rw [h1, ar_ext hv]
      | k + 1, hq => simp at hq
    have hD9 : va_D A [(h0, .inl (cI, k0, .inl (fun _ => p0)))] := by
      refine ⟨fun i j p q hi hj _ => ?_, fun k q hq => ?_⟩
      · have a := (List.getElem?_eq_some_iff.mp hi).1
        have b := (List.getElem?_eq_some_iff.mp hj).1
        simp at a b
        omega
      · match k, hq with
        | 0, hq => cases hq; exact hD.2 0 (h0, .inl (cI, k0, .inl f)) rfl
        | k + 1, hq => simp at hq
    exact W.vret hx hb hr (fun t ht hW => ⟨⟨(), rfl, trivial, ⟨fun _ => p0, rfl, by rw [ht]; exact hP9, hD9⟩⟩, hS.F ht⟩) hS.2.2 dJ7_fill_53178_20
