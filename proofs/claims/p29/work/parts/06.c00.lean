def v_s_X0_areTwins : List Cond := Cond.code yX0_areTwins cX0_areTwins 7 (some .boolean) :: ([Cond.fieldLink RX0 78 "MayRings$Ways" "pairs" "[I", Cond.fieldLink RX0 37 "MayRings$Families" "size" "I", Cond.fieldLink RX0 67 "MayRings$Ways" "ground" "[I"] ++ (wsX00 ++ (wsX70 ++ ([]))))
theorem k_s_X0_areTwins : GoodIn lw_tbl v_s_X0_areTwins := gd_c (List.mem_of_getElem? (i := 1042) (by decide +kernel)) rfl (goodIn_app (gd_c (List.mem_of_getElem? (i := 444) (by decide +kernel)) rfl (gd_c (List.mem_of_getElem? (i := 508) (by decide +kernel)) rfl (gd_c (List.mem_of_getElem? (i := 441) (by decide +kernel)) rfl (gd_nil)))) (goodIn_app kfX0 (goodIn_app kfX7 (gd_nil))))
set_option maxHeartbeats 2000000 in
set_option maxRecDepth 100000 in
theorem c_s_X0_areTwins (l : Launch) (dC : Nat → ClassId) (dI : Nat → Nat → Nat) (cB cI cJ cZ cP : ClassId) (h0 : Nat) (h1 : Nat) (h2 : Nat) (h3 : Nat) (h4 : Nat) (h5 : Nat) (h6 : Nat) (a0 : Int32) (a1 : Int32) (a2 : Int32) (ha2 : rg (0) (9) a2) (a3 : Int32) (h7 : Nat) (h8 : Nat) (g6 : Nat → Int32) (hg6 : rgA (0) (511) g6) (h9 : Nat) (g7 : Nat → Int32) (hg7 : rgA (0) (511) g7) (h10 : Nat) (h11 : Nat) (h12 : Nat) (h13 : Nat) (a4 : Int32) (a5 : Int32) (a6 : Int32) (a7 : Int32) (a8 : Int32) (a9 : Int32) (a10 : Int32) (a11 : Int32) (p1 : Int32) (hp1 : rg (0) (8) p1) (p2 : Int32) (hp2 : rg (0) (8) p2) (sz : Nat) : Met l yX0_areTwins v_s_X0_areTwins ({ frames := 0, cells := 0, slots := 0, locals := 0 }) (va_Pc [.ref h0, .ref h7, .int p1, .int p2] (fun U => U.heap.size = sz ∧ va_P (dC, dI) vwCl [(h0, .inr (0, [.ref h1, .ref h2, .ref h3, .ref h4, .ref h5, .ref h6, .int a0, .int a1, .int a2, .int a3])), (h7, .inr (7, [.ref h8, .ref h9, .ref h10, .ref h11, .ref h12, .ref h13, .int a4, .int a5, .int a6, .int a7, .int a8, .int a9, .int a10, .int a11])), (h8, .inl (cI, 9, .inl g6)), (h9, .inl (cI, 9, .inl g7))] U.heap ∧ va_K (dC, dI) vwCl (ty5 cB cI cJ cZ cP) U ∧ va_D (fun _ => True) [(h0, .inr (0, [.ref h1, .ref h2, .ref h3, .ref h4, .ref h5, .ref h6, .int a0, .int a1, .int a2, .int a3])), (h7, .inr (7, [.ref h8, .ref h9, .ref h10, .ref h11, .ref h12, .ref h13, .int a4, .int a5, .int a6, .int a7, .int a8, .int a9, .int a10, .int a11])), (h8, .inl (cI, 9, .inl g6)), (h9, .inl (cI, 9, .inl g7))])) (va_Qi (fun (r : Int32) (u9 : Unit) => rg (0) (1) r) (fun u9 t => va_P (dC, dI) vwCl [(h0, .inr (0, [.ref h1, .ref h2, .ref h3, .ref h4, .ref h5, .ref h6, .int a0, .int a1, .int a2, .int a3])), (h7, .inr (7, [.ref h8, .ref h9, .ref h10, .ref h11, .ref h12, .ref h13, .int a4, .int a5, .int a6, .int a7, .int a8, .int a9, .int a10, .int a11])), (h8, .inl (cI, 9, .inl g6)), (h9, .inl (cI, 9, .inl g7))] t.heap ∧ va_D (va_A [(h0, .inr (0, [.ref h1, .ref h2, .ref h3, .ref h4, .ref h5, .ref h6, .int a0, .int a1, .int a2, .int a3])), (h7, .inr (7, [.ref h8, .ref h9, .ref h10, .ref h11, .ref h12, .ref h13, .int a4, .int a5, .int a6, .int a7, .int a8, .int a9, .int a10, .int a11])), (h8, .inl (cI, 9, .inl g6)), (h9, .inl (cI, 9, .inl g7))] sz) [(h0, .inr (0, [.ref h1, .ref h2, .ref h3, .ref h4, .ref h5, .ref h6, .int a0, .int a1, .int a2, .int a3])), (h7, .inr (7, [.ref h8, .ref h9, .ref h10, .ref h11, .ref h12, .ref h13, .int a4, .int a5, .int a6, .int a7, .int a8, .int a9, .int a10, .int a11])), (h8, .inl (cI, 9, .inl g6)), (h9, .inl (cI, 9, .inl g7))]) (va_A [(h0, .inr (0, [.ref h1, .ref h2, .ref h3, .ref h4, .ref h5, .ref h6, .int a0, .int a1, .int a2, .int a3])), (h7, .inr (7, [.ref h8, .ref h9, .ref h10, .ref h11, .ref h12, .ref h13, .int a4, .int a5, .int a6, .int a7, .int a8, .int a9, .int a10, .int a11])), (h8, .inl (cI, 9, .inl g6)), (h9, .inl (cI, 9, .inl g7))] sz)) 0 0 (va_A [(h0, .inr (0, [.ref h1, .ref h2, .ref h3, .ref h4, .ref h5, .ref h6, .int a0, .int a1, .int a2, .int a3])), (h7, .inr (7, [.ref h8, .ref h9, .ref h10, .ref h11, .ref h12, .ref h13, .int a4, .int a5, .int a6, .int a7, .int a8, .int a9, .int a10, .int a11])), (h8, .inl (cI, 9, .inl g6)), (h9, .inl (cI, 9, .inl g7))] sz) := by
  refine Met.ofW (cc := cX0_areTwins) (maxL := 7) (ret := (some .boolean)) (by decide) rfl ?_
  intro p e s m args below meth c s₁ B hml hv
  obtain ⟨rfl, hsz, hP, hK, hD0⟩ := hv
  have hx := B.exec
  have hb := B.bytes
  have hr := B.returns
  have hts := atoms_spec (ws := v_s_X0_areTwins) B.pre
  have hown : s.vm.findClass RX0 = some m.cls := findClass_of_methodNamed B.named
  have hlocks := B.notSynchronized
  have hinX0 : ∀ w ∈ wsX00, w ∈ v_s_X0_areTwins := fun _ h => List.mem_cons_of_mem _ (List.mem_append_right _ (List.mem_append_left _ h))
  have hinX7 : ∀ w ∈ wsX70, w ∈ v_s_X0_areTwins := fun _ h => List.mem_cons_of_mem _ (List.mem_append_right _ (List.mem_append_right _ (List.mem_append_left _ h)))
  subst hsz
  have hD := hD0.self (sz := s.heap.size)
  generalize hAe : va_A [(h0, .inr (0, [.ref h1, .ref h2, .ref h3, .ref h4, .ref h5, .ref h6, .int a0, .int a1, .int a2, .int a3])), (h7, .inr (7, [.ref h8, .ref h9, .ref h10, .ref h11, .ref h12, .ref h13, .int a4, .int a5, .int a6, .int a7, .int a8, .int a9, .int a10, .int a11])), (h8, .inl (cI, 9, .inl g6)), (h9, .inl (cI, 9, .inl g7))] s.heap.size = A at hD ⊢
  have hA : ∀ q : Nat, s.heap.size ≤ q → A q := fun q h => by rw [← hAe]; exact Or.inr h
  have hP : va_P (dC, dI) vwCl [(h0, .inr (0, [.ref h1, .ref h2, .ref h3, .ref h4, .ref h5, .ref h6, .int a0, .int a1, .int a2, .int a3])), (h7, .inr (7, [.ref h8, .ref h9, .ref h10, .ref h11, .ref h12, .ref h13, .int a4, .int a5, .int a6, .int a7, .int a8, .int a9, .int a10, .int a11])), (h8, .inl (cI, 9, .inl g6)), (h9, .inl (cI, 9, .inl g7))] s.heap := hP
  have hl := lv_entry ([.ref h0, .ref h7, .int p1, .int p2]) (n := 7) (Nat.le_of_ble_eq_true rfl)
  rw [lg_entry_eq]
  generalize (lg_sl ([.ref h0, .ref h7, .int p1, .int p2]) ++ List.replicate (7 - (lg_sl ([.ref h0, .ref h7, .int p1, .int p2])).length) Slot.unset).toArray = ls at hl ⊢
  have hl : lv_has ls 7 [(0, .ref h0), (1, .ref h7), (2, .int p1), (3, .int p2)] := hl
  refine W_gen (A := A) hP (fun H locs hP hS => ?_)
  refine lv_iconst (v := 1) hx hb dX0_areTwins_0 (by decide) ?_
  refine lv_iload_n hx hb dX0_areTwins_1 rfl (lv_at hl 2 rfl) ?_
  refine lv_ishl hx hb dX0_areTwins_2 ?_
  refine lv_topi (fun x_1 ex_1 => ?_)
  have hx_1 : rg (1) (256) x_1 := by rw [ex_1]; exact rg_mono (rg_shl1 8 (rg_mono hp1 (by decide) (by decide)) (by decide)) (by decide) (by decide)
  refine lv_iconst (v := 1) hx hb dX0_areTwins_3 (by decide) ?_
  refine lv_iload_n hx hb dX0_areTwins_4 rfl (lv_at hl 3 rfl) ?_
  refine lv_ishl hx hb dX0_areTwins_5 ?_
  refine lv_topi (fun x_2 ex_2 => ?_)
  have hx_2 : rg (1) (256) x_2 := by rw [ex_2]; exact rg_mono (rg_shl1 8 (rg_mono hp2 (by decide) (by decide)) (by decide)) (by decide) (by decide)
  refine lv_ior hx hb dX0_areTwins_6 ?_
  refine lv_topi (fun x_3 ex_3 => ?_)
  have hx_3 : rg (0) (511) x_3 := by rw [ex_3]; exact rg_mono (rg_or 9 (rg_mono hx_1 (by decide) (by decide)) (rg_mono hx_2 (by decide) (by decide)) (by decide)) (by decide) (by decide)
  refine lv_iconst (v := (-1)) hx hb dX0_areTwins_7 (by decide) ?_
  refine lv_ixor hx hb dX0_areTwins_8 ?_
  refine lv_topi (fun x_4 ex_4 => ?_)
  refine lv_istore (lv' := [(4, .int x_4), (0, .ref h0), (1, .ref h7), (2, .int p1), (3, .int p2)]) hx hb dX0_areTwins_9 hl (by decide) rfl (fun ls hl => ?_)
  refine lv_aload_n hx hb dX0_areTwins_11 rfl (lv_at hl 2 rfl) ?_
  refine va_get (D := (dC, dI)) (ci := 7) (v := .ref h9) (C := RX7) (T := TX7) (N := 14) hx hb hts hinX7 hown hK hP 1 rfl rfl 1 (by decide) (hts (.fieldLink RX0 78 "MayRings$Ways" "pairs" "[I") (List.mem_of_getElem? (i := 1) rfl)) (fun _ h9 => h9) rfl dX0_areTwins_12 ?_
  refine lv_iload_n hx hb dX0_areTwins_15 rfl (lv_at hl 3 rfl) ?_
  refine va_iald hx hb hK hP 3 1 rfl rfl (rg_in (n := 9) (rg_mono hp1 (by decide) (by decide))) dX0_areTwins_16 ?_
  refine lv_topi (fun x_5 ex_5 => ?_)
  have hx_5 : rg (0) (511) x_5 := by rw [ex_5]; exact rg_mono (hg7 _) (by decide) (by decide)
  refine lv_iload hx hb dX0_areTwins_17 (lv_at hl 0 rfl) ?_
  refine lv_iand hx hb dX0_areTwins_19 ?_
  refine lv_topi (fun x_6 ex_6 => ?_)
  have hx_6 : rg (0) (511) x_6 := by rw [ex_6]; exact rg_mono (rg_andl (b := 511) (rg_mono hx_5 (by decide) (by decide))) (by decide) (by decide)
  have kx_6_0 : rg 1 2147483647 x_6 → rg 1 (511) x_5 := fun hq => rg_andP hx_5 (ex_6 ▸ hq)
  refine lv_aload_n hx hb dX0_areTwins_20 rfl (lv_at hl 2 rfl) ?_
  refine va_get (D := (dC, dI)) (ci := 7) (v := .ref h9) (C := RX7) (T := TX7) (N := 14) hx hb hts hinX7 hown hK hP 1 rfl rfl 1 (by decide) (hts (.fieldLink RX0 78 "MayRings$Ways" "pairs" "[I") (List.mem_of_getElem? (i := 1) rfl)) (fun _ h9 => h9) rfl dX0_areTwins_21 ?_
  refine lv_iload_n hx hb dX0_areTwins_24 rfl (lv_at hl 4 rfl) ?_
  refine va_iald hx hb hK hP 3 1 rfl rfl (rg_in (n := 9) (rg_mono hp2 (by decide) (by decide))) dX0_areTwins_25 ?_
  refine lv_topi (fun x_7 ex_7 => ?_)
  have hx_7 : rg (0) (511) x_7 := by rw [ex_7]; exact rg_mono (hg7 _) (by decide) (by decide)
  refine lv_iload hx hb dX0_areTwins_26 (lv_at hl 0 rfl) ?_
  refine lv_iand hx hb dX0_areTwins_28 ?_
  refine lv_topi (fun x_8 ex_8 => ?_)
  have hx_8 : rg (0) (511) x_8 := by rw [ex_8]; exact rg_mono (rg_andl (b := 511) (rg_mono hx_7 (by decide) (by decide))) (by decide) (by decide)
  have kx_8_0 : rg 1 2147483647 x_8 → rg 1 (511) x_7 := fun hq => rg_andP hx_7 (ex_8 ▸ hq)
  refine lv_icmp_ne (tgt := 36) hx hb dX0_areTwins_29 (by decide) (fun c_9 => ?_) (fun c_9 => ?_)
  · skip
    refine lv_iconst (v := 0) hx hb dX0_areTwins_36 (by decide) ?_
    refine lv_istore (lv' := [(5, .int 0), (4, .int x_4), (0, .ref h0), (1, .ref h7), (2, .int p1), (3, .int p2)]) hx hb dX0_areTwins_37 hl (by decide) rfl (fun ls hl => ?_)
    refine lv_iconst (v := 0) hx hb dX0_areTwins_39 (by decide) ?_
    refine lv_istore (lv' := [(6, .int 0), (5, .int 0), (4, .int x_4), (0, .ref h0), (1, .ref h7), (2, .int p1), (3, .int p2)]) hx hb dX0_areTwins_40 hl (by decide) rfl (fun ls hl => ?_)
    refine W_loopM (σ := Int32) (fun u H locs ls => va_P (dC, dI) vwCl [(h0, .inr (0, [.ref h1, .ref h2, .ref h3, .ref h4, .ref h5, .ref h6, .int a0, .int a1, .int a2, .int a3])), (h7, .inr (7, [.ref h8, .ref h9, .ref h10, .ref h11, .ref h12, .ref h13, .int a4, .int a5, .int a6, .int a7, .int a8, .int a9, .int a10, .int a11])), (h8, .inl (cI, 9, .inl g6)), (h9, .inl (cI, 9, .inl g7))] H ∧ va_D A [(h0, .inr (0, [.ref h1, .ref h2, .ref h3, .ref h4, .ref h5, .ref h6, .int a0, .int a1, .int a2, .int a3])), (h7, .inr (7, [.ref h8, .ref h9, .ref h10, .ref h11, .ref h12, .ref h13, .int a4, .int a5, .int a6, .int a7, .int a8, .int a9, .int a10, .int a11])), (h8, .inl (cI, 9, .inl g6)), (h9, .inl (cI, 9, .inl g7))] ∧ va_S A s.heap H locs ∧ lv_has ls 7 [(6, .int u), (5, .int 0), (4, .int x_4), (0, .ref h0), (1, .ref h7), (2, .int p1), (3, .int p2)] ∧ rg (0) (9) u) (fun u => ((9) - u.toInt).toNat) 42 [] ?_ (0) H locs ls ⟨hP, hD, hS, hl, (rg_mono (rg_k (x := 0) (c := 0) (by decide)) (by decide) (by decide))⟩
    rintro x_53 H locs ls ⟨hP, hD, hS, hl, hx_53⟩ ih_58
    replace hP : va_P (dC, dI) vwCl [(h0, .inr (0, [.ref h1, .ref h2, .ref h3, .ref h4, .ref h5, .ref h6, .int a0, .int a1, .int a2, .int a3])), (h7, .inr (7, [.ref h8, .ref h9, .ref h10, .ref h11, .ref h12, .ref h13, .int a4, .int a5, .int a6, .int a7, .int a8, .int a9, .int a10, .int a11])), (h8, .inl (cI, 9, .inl g6)), (h9, .inl (cI, 9, .inl g7))] H := hP
    replace hD : va_D A [(h0, .inr (0, [.ref h1, .ref h2, .ref h3, .ref h4, .ref h5, .ref h6, .int a0, .int a1, .int a2, .int a3])), (h7, .inr (7, [.ref h8, .ref h9, .ref h10, .ref h11, .ref h12, .ref h13, .int a4, .int a5, .int a6, .int a7, .int a8, .int a9, .int a10, .int a11])), (h8, .inl (cI, 9, .inl g6)), (h9, .inl (cI, 9, .inl g7))] := hD
    replace hl : lv_has ls 7 [(6, .int x_53), (5, .int 0), (4, .int x_4), (0, .ref h0), (1, .ref h7), (2, .int p1), (3, .int p2)] := hl
    replace hx_53 : rg (0) (9) x_53 := hx_53
    refine lv_iload hx hb dX0_areTwins_42 (lv_at hl 0 rfl) ?_
    refine lv_aload_n hx hb dX0_areTwins_44 rfl (lv_at hl 3 rfl) ?_
    refine va_get (D := (dC, dI)) (ci := 0) (v := .int a2) (C := RX0) (T := TX0) (N := 10) hx hb hts hinX0 hown hK hP 0 rfl rfl 8 (by decide) (hts (.fieldLink RX0 37 "MayRings$Families" "size" "I") (List.mem_of_getElem? (i := 2) rfl)) (fun _ h9 => h9) rfl dX0_areTwins_45 ?_
    refine lv_icmp_ge (tgt := 94) hx hb dX0_areTwins_48 (by decide) (fun c_59 => ?_) (fun c_59 => ?_)
    · skip
      refine lv_iload hx hb dX0_areTwins_94 (lv_at hl 1 rfl) ?_
      have hP9 := hP.sub (ws' := [(h0, .inr (0, [.ref h1, .ref h2, .ref h3, .ref h4, .ref h5, .ref h6, .int a0, .int a1, .int a2, .int a3])), (h7, .inr (7, [.ref h8, .ref h9, .ref h10, .ref h11, .ref h12, .ref h13, .int a4, .int a5, .int a6, .int a7, .int a8, .int a9, .int a10, .int a11])), (h8, .inl (cI, 9, .inl g6)), (h9, .inl (cI, 9, .inl g7))]) [0, 1, 2, 3] rfl
      have hD9 := hD.sub (ws' := [(h0, .inr (0, [.ref h1, .ref h2, .ref h3, .ref h4, .ref h5, .ref h6, .int a0, .int a1, .int a2, .int a3])), (h7, .inr (7, [.ref h8, .ref h9, .ref h10, .ref h11, .ref h12, .ref h13, .int a4, .int a5, .int a6, .int a7, .int a8, .int a9, .int a10, .int a11])), (h8, .inl (cI, 9, .inl g6)), (h9, .inl (cI, 9, .inl g7))]) [0, 1, 2, 3] (by decide) rfl
      exact W.zret (v := 0) hx hb hr (rfl) (fun t ht hW => ⟨⟨0, (), rfl, (rg_mono (rg_k (x := 0) (c := 0) (by decide)) (by decide) (by decide)), ⟨by rw [ht]; exact hP9, hD9⟩⟩, hS.F ht⟩) hS.2.2 dX0_areTwins_96
    · skip
      have h_60 : rg (0) (8) x_53 := by have ha := hx_53; have hb_ := ha2; simp only [rg, fa_lt, fa_le, fa_eq] at ha hb_ c_59; simp only [rg]; omega
      have h_61 : rg (1) (9) a2 := by have ha := hx_53; have hb_ := ha2; simp only [rg, fa_lt, fa_le, fa_eq] at ha hb_ c_59; simp only [rg]; omega
      refine lv_iload hx hb dX0_areTwins_51 (lv_at hl 1 rfl) ?_
      refine lv_if_eq (tgt := 85) hx hb dX0_areTwins_53 (by decide) (fun _ => ?_) (fun cz => absurd (by decide) cz)
      refine lv_iconst (v := 0) hx hb dX0_areTwins_85 (by decide) ?_
      refine lv_istore (lv' := [(5, .int 0), (6, .int x_53), (4, .int x_4), (0, .ref h0), (1, .ref h7), (2, .int p1), (3, .int p2)]) hx hb dX0_areTwins_86 hl (by decide) rfl (fun ls hl => ?_)
      obtain ⟨x_62, ex_62⟩ : ∃ y : Int32, y = x_53 + Int32.ofInt (1) := ⟨_, rfl⟩
      have hx_62 : rg (1) (9) x_62 := by rw [ex_62]; exact rg_mono (rg_add h_60 (rg_k (x := Int32.ofInt (1)) (c := 1) (by decide)) (by decide) (by decide)) (by decide) (by decide)
      have qx_62 : x_62.toInt = x_53.toInt + (1) := by rw [ex_62]; exact rg_addE h_60 (rg_k (x := Int32.ofInt (1)) (c := 1) (by decide)) (by decide) (by decide) (by decide)
      refine lv_iinc (v := x_62) (lv' := [(6, .int x_62), (5, .int 0), (4, .int x_4), (0, .ref h0), (1, .ref h7), (2, .int p1), (3, .int p2)]) hx hb dX0_areTwins_88 hl (k := 1) rfl (ex_62.symm) (by decide) rfl (fun ls hl => ?_)
      clear ex_62
      refine lv_goto (tgt := 42) hx hb dX0_areTwins_91 (by decide) ?_
      exact ih_58 (x_62) H locs ls ⟨hP.sub (ws' := [(h0, .inr (0, [.ref h1, .ref h2, .ref h3, .ref h4, .ref h5, .ref h6, .int a0, .int a1, .int a2, .int a3])), (h7, .inr (7, [.ref h8, .ref h9, .ref h10, .ref h11, .ref h12, .ref h13, .int a4, .int a5, .int a6, .int a7, .int a8, .int a9, .int a10, .int a11])), (h8, .inl (cI, 9, .inl g6)), (h9, .inl (cI, 9, .inl g7))]) [0, 1, 2, 3] rfl, hD.sub (ws' := [(h0, .inr (0, [.ref h1, .ref h2, .ref h3, .ref h4, .ref h5, .ref h6, .int a0, .int a1, .int a2, .int a3])), (h7, .inr (7, [.ref h8, .ref h9, .ref h10, .ref h11, .ref h12, .ref h13, .int a4, .int a5, .int a6, .int a7, .int a8, .int a9, .int a10, .int a11])), (h8, .inl (cI, 9, .inl g6)), (h9, .inl (cI, 9, .inl g7))]) [0, 1, 2, 3] (by decide) rfl, hS, lv_sub hl [0, 1, 2, 3, 4, 5, 6] rfl, (rg_mono hx_62 (by decide) (by decide))⟩ (by show ((9) - x_62.toInt).toNat < ((9) - x_53.toInt).toNat; have ha := h_60; simp only [rg] at ha; omega)
  · skip
    refine lv_iconst (v := 1) hx hb dX0_areTwins_32 (by decide) ?_
    refine lv_goto (tgt := 37) hx hb dX0_areTwins_33 (by decide) ?_
    refine lv_istore (lv' := [(5, .int 1), (4, .int x_4), (0, .ref h0), (1, .ref h7), (2, .int p1), (3, .int p2)]) hx hb dX0_areTwins_37 hl (by decide) rfl (fun ls hl => ?_)
    refine lv_iconst (v := 0) hx hb dX0_areTwins_39 (by decide) ?_
    refine lv_istore (lv' := [(6, .int 0), (5, .int 1), (4, .int x_4), (0, .ref h0), (1, .ref h7), (2, .int p1), (3, .int p2)]) hx hb dX0_areTwins_40 hl (by decide) rfl (fun ls hl => ?_)
    refine W_loopM (σ := Int32 × Int32) (fun u H locs ls => va_P (dC, dI) vwCl [(h0, .inr (0, [.ref h1, .ref h2, .ref h3, .ref h4, .ref h5, .ref h6, .int a0, .int a1, .int a2, .int a3])), (h7, .inr (7, [.ref h8, .ref h9, .ref h10, .ref h11, .ref h12, .ref h13, .int a4, .int a5, .int a6, .int a7, .int a8, .int a9, .int a10, .int a11])), (h8, .inl (cI, 9, .inl g6)), (h9, .inl (cI, 9, .inl g7))] H ∧ va_D A [(h0, .inr (0, [.ref h1, .ref h2, .ref h3, .ref h4, .ref h5, .ref h6, .int a0, .int a1, .int a2, .int a3])), (h7, .inr (7, [.ref h8, .ref h9, .ref h10, .ref h11, .ref h12, .ref h13, .int a4, .int a5, .int a6, .int a7, .int a8, .int a9, .int a10, .int a11])), (h8, .inl (cI, 9, .inl g6)), (h9, .inl (cI, 9, .inl g7))] ∧ va_S A s.heap H locs ∧ lv_has ls 7 [(6, .int u.1), (5, .int u.2), (4, .int x_4), (0, .ref h0), (1, .ref h7), (2, .int p1), (3, .int p2)] ∧ rg (0) (9) u.1 ∧ rg (0) (1) u.2) (fun u => ((9) - u.1.toInt).toNat) 42 [] ?_ (0, 1) H locs ls ⟨hP, hD, hS, hl, (rg_mono (rg_k (x := 0) (c := 0) (by decide)) (by decide) (by decide)), (rg_mono (rg_k (x := 1) (c := 1) (by decide)) (by decide) (by decide))⟩
    rintro ⟨x_208, x_209⟩ H locs ls ⟨hP, hD, hS, hl, hx_208, hx_209⟩ ih_225
    replace hP : va_P (dC, dI) vwCl [(h0, .inr (0, [.ref h1, .ref h2, .ref h3, .ref h4, .ref h5, .ref h6, .int a0, .int a1, .int a2, .int a3])), (h7, .inr (7, [.ref h8, .ref h9, .ref h10, .ref h11, .ref h12, .ref h13, .int a4, .int a5, .int a6, .int a7, .int a8, .int a9, .int a10, .int a11])), (h8, .inl (cI, 9, .inl g6)), (h9, .inl (cI, 9, .inl g7))] H := hP
    replace hD : va_D A [(h0, .inr (0, [.ref h1, .ref h2, .ref h3, .ref h4, .ref h5, .ref h6, .int a0, .int a1, .int a2, .int a3])), (h7, .inr (7, [.ref h8, .ref h9, .ref h10, .ref h11, .ref h12, .ref h13, .int a4, .int a5, .int a6, .int a7, .int a8, .int a9, .int a10, .int a11])), (h8, .inl (cI, 9, .inl g6)), (h9, .inl (cI, 9, .inl g7))] := hD
    replace hl : lv_has ls 7 [(6, .int x_208), (5, .int x_209), (4, .int x_4), (0, .ref h0), (1, .ref h7), (2, .int p1), (3, .int p2)] := hl
    replace hx_208 : rg (0) (9) x_208 := hx_208
    replace hx_209 : rg (0) (1) x_209 := hx_209
    refine lv_iload hx hb dX0_areTwins_42 (lv_at hl 0 rfl) ?_
    refine lv_aload_n hx hb dX0_areTwins_44 rfl (lv_at hl 3 rfl) ?_
    refine va_get (D := (dC, dI)) (ci := 0) (v := .int a2) (C := RX0) (T := TX0) (N := 10) hx hb hts hinX0 hown hK hP 0 rfl rfl 8 (by decide) (hts (.fieldLink RX0 37 "MayRings$Families" "size" "I") (List.mem_of_getElem? (i := 2) rfl)) (fun _ h9 => h9) rfl dX0_areTwins_45 ?_
    refine lv_icmp_ge (tgt := 94) hx hb dX0_areTwins_48 (by decide) (fun c_226 => ?_) (fun c_226 => ?_)
    · skip
      refine lv_iload hx hb dX0_areTwins_94 (lv_at hl 1 rfl) ?_
      have hP9 := hP.sub (ws' := [(h0, .inr (0, [.ref h1, .ref h2, .ref h3, .ref h4, .ref h5, .ref h6, .int a0, .int a1, .int a2, .int a3])), (h7, .inr (7, [.ref h8, .ref h9, .ref h10, .ref h11, .ref h12, .ref h13, .int a4, .int a5, .int a6, .int a7, .int a8, .int a9, .int a10, .int a11])), (h8, .inl (cI, 9, .inl g6)), (h9, .inl (cI, 9, .inl g7))]) [0, 1, 2, 3] rfl
      have hD9 := hD.sub (ws' := [(h0, .inr (0, [.ref h1, .ref h2, .ref h3, .ref h4, .ref h5, .ref h6, .int a0, .int a1, .int a2, .int a3])), (h7, .inr (7, [.ref h8, .ref h9, .ref h10, .ref h11, .ref h12, .ref h13, .int a4, .int a5, .int a6, .int a7, .int a8, .int a9, .int a10, .int a11])), (h8, .inl (cI, 9, .inl g6)), (h9, .inl (cI, 9, .inl g7))]) [0, 1, 2, 3] (by decide) rfl
      exact W.zret (v := x_209) hx hb hr (rg_zn (rg_mono hx_209 (by decide) (by decide))) (fun t ht hW => ⟨⟨x_209, (), rfl, (rg_mono hx_209 (by decide) (by decide)), ⟨by rw [ht]; exact hP9, hD9⟩⟩, hS.F ht⟩) hS.2.2 dX0_areTwins_96
    · skip
      have h_227 : rg (0) (8) x_208 := by have ha := hx_208; have hb_ := ha2; simp only [rg, fa_lt, fa_le, fa_eq] at ha hb_ c_226; simp only [rg]; omega
      have h_228 : rg (1) (9) a2 := by have ha := hx_208; have hb_ := ha2; simp only [rg, fa_lt, fa_le, fa_eq] at ha hb_ c_226; simp only [rg]; omega
      refine lv_iload hx hb dX0_areTwins_51 (lv_at hl 1 rfl) ?_
      refine lv_if_eq (tgt := 85) hx hb dX0_areTwins_53 (by decide) (fun c_229 => ?_) (fun c_229 => ?_)
      · skip
        have h_230 : rg (0) (0) x_209 := by have ha := hx_209; have hb_ := (rg_k (x := 0) (c := 0) (by decide)); simp only [rg, fa_lt, fa_le, fa_eq, (by decide : (0 : Int32).toInt = 0)] at ha hb_ c_229; simp only [rg]; omega
        refine lv_iconst (v := 0) hx hb dX0_areTwins_85 (by decide) ?_
        refine lv_istore (lv' := [(5, .int 0), (6, .int x_208), (4, .int x_4), (0, .ref h0), (1, .ref h7), (2, .int p1), (3, .int p2)]) hx hb dX0_areTwins_86 hl (by decide) rfl (fun ls hl => ?_)
        obtain ⟨x_231, ex_231⟩ : ∃ y : Int32, y = x_208 + Int32.ofInt (1) := ⟨_, rfl⟩
        have hx_231 : rg (1) (9) x_231 := by rw [ex_231]; exact rg_mono (rg_add h_227 (rg_k (x := Int32.ofInt (1)) (c := 1) (by decide)) (by decide) (by decide)) (by decide) (by decide)
        have qx_231 : x_231.toInt = x_208.toInt + (1) := by rw [ex_231]; exact rg_addE h_227 (rg_k (x := Int32.ofInt (1)) (c := 1) (by decide)) (by decide) (by decide) (by decide)
        refine lv_iinc (v := x_231) (lv' := [(6, .int x_231), (5, .int 0), (4, .int x_4), (0, .ref h0), (1, .ref h7), (2, .int p1), (3, .int p2)]) hx hb dX0_areTwins_88 hl (k := 1) rfl (ex_231.symm) (by decide) rfl (fun ls hl => ?_)
        clear ex_231
        refine lv_goto (tgt := 42) hx hb dX0_areTwins_91 (by decide) ?_
        exact ih_225 (x_231, 0) H locs ls ⟨hP.sub (ws' := [(h0, .inr (0, [.ref h1, .ref h2, .ref h3, .ref h4, .ref h5, .ref h6, .int a0, .int a1, .int a2, .int a3])), (h7, .inr (7, [.ref h8, .ref h9, .ref h10, .ref h11, .ref h12, .ref h13, .int a4, .int a5, .int a6, .int a7, .int a8, .int a9, .int a10, .int a11])), (h8, .inl (cI, 9, .inl g6)), (h9, .inl (cI, 9, .inl g7))]) [0, 1, 2, 3] rfl, hD.sub (ws' := [(h0, .inr (0, [.ref h1, .ref h2, .ref h3, .ref h4, .ref h5, .ref h6, .int a0, .int a1, .int a2, .int a3])), (h7, .inr (7, [.ref h8, .ref h9, .ref h10, .ref h11, .ref h12, .ref h13, .int a4, .int a5, .int a6, .int a7, .int a8, .int a9, .int a10, .int a11])), (h8, .inl (cI, 9, .inl g6)), (h9, .inl (cI, 9, .inl g7))]) [0, 1, 2, 3] (by decide) rfl, hS, lv_sub hl [0, 1, 2, 3, 4, 5, 6] rfl, (rg_mono hx_231 (by decide) (by decide)), (rg_mono (rg_k (x := 0) (c := 0) (by decide)) (by decide) (by decide))⟩ (by show ((9) - x_231.toInt).toNat < ((9) - x_208.toInt).toNat; have ha := h_227; simp only [rg] at ha; omega)
      · skip
        have h_232 : rg (1) (1) x_209 := by have ha := hx_209; have hb_ := (rg_k (x := 0) (c := 0) (by decide)); simp only [rg, fa_lt, fa_le, fa_eq, (by decide : (0 : Int32).toInt = 0)] at ha hb_ c_229; simp only [rg]; omega
        refine lv_aload_n hx hb dX0_areTwins_56 rfl (lv_at hl 4 rfl) ?_
        refine va_get (D := (dC, dI)) (ci := 7) (v := .ref h8) (C := RX7) (T := TX7) (N := 14) hx hb hts hinX7 hown hK hP 1 rfl rfl 0 (by decide) (hts (.fieldLink RX0 67 "MayRings$Ways" "ground" "[I") (List.mem_of_getElem? (i := 3) rfl)) (fun _ h9 => h9) rfl dX0_areTwins_57 ?_
        refine lv_iload hx hb dX0_areTwins_60 (lv_at hl 0 rfl) ?_
        refine va_iald hx hb hK hP 2 1 rfl rfl (rg_in (n := 9) (rg_mono h_227 (by decide) (by decide))) dX0_areTwins_62 ?_
        refine lv_topi (fun x_233 ex_233 => ?_)
        have hx_233 : rg (0) (511) x_233 := by rw [ex_233]; exact rg_mono (hg6 _) (by decide) (by decide)
        refine lv_iload_n hx hb dX0_areTwins_63 rfl (lv_at hl 5 rfl) ?_
        refine lv_ishr hx hb dX0_areTwins_64 ?_
        refine lv_topi (fun x_234 ex_234 => ?_)
        have hx_234 : rg (0) (511) x_234 := by rw [ex_234]; exact rg_mono (rg_shr (b := 511) (rg_mono hx_233 (by decide) (by decide))) (by decide) (by decide)
        have kx_234_0 : rg 1 2147483647 x_234 → rg 1 (511) x_233 := fun hq => rg_shrP hx_233 (ex_234 ▸ hq)
        refine lv_iconst (v := 1) hx hb dX0_areTwins_65 (by decide) ?_
        refine lv_iand hx hb dX0_areTwins_66 ?_
        refine lv_topi (fun x_235 ex_235 => ?_)
        have hx_235 : rg (0) (1) x_235 := by rw [ex_235]; exact rg_mono (rg_andr (b := 1) (rg_mono (rg_k (x := 1) (c := 1) (by decide)) (by decide) (by decide))) (by decide) (by decide)
        have kx_235_0 : rg 1 2147483647 x_235 → rg 1 (511) x_234 := fun hq => rg_andP hx_234 (ex_235 ▸ hq)
        refine lv_aload_n hx hb dX0_areTwins_67 rfl (lv_at hl 4 rfl) ?_
        refine va_get (D := (dC, dI)) (ci := 7) (v := .ref h8) (C := RX7) (T := TX7) (N := 14) hx hb hts hinX7 hown hK hP 1 rfl rfl 0 (by decide) (hts (.fieldLink RX0 67 "MayRings$Ways" "ground" "[I") (List.mem_of_getElem? (i := 3) rfl)) (fun _ h9 => h9) rfl dX0_areTwins_68 ?_
        refine lv_iload hx hb dX0_areTwins_71 (lv_at hl 0 rfl) ?_
        refine va_iald hx hb hK hP 2 1 rfl rfl (rg_in (n := 9) (rg_mono h_227 (by decide) (by decide))) dX0_areTwins_73 ?_
        refine tp_v (.int x_233) (congrArg Value.int (ex_233.symm)) ?_
        refine lv_iload_n hx hb dX0_areTwins_74 rfl (lv_at hl 6 rfl) ?_
        refine lv_ishr hx hb dX0_areTwins_75 ?_
        refine lv_topi (fun x_236 ex_236 => ?_)
        have hx_236 : rg (0) (511) x_236 := by rw [ex_236]; exact rg_mono (rg_shr (b := 511) (rg_mono hx_233 (by decide) (by decide))) (by decide) (by decide)
        have kx_236_0 : rg 1 2147483647 x_236 → rg 1 (511) x_233 := fun hq => rg_shrP hx_233 (ex_236 ▸ hq)
        refine lv_iconst (v := 1) hx hb dX0_areTwins_76 (by decide) ?_
        refine lv_iand hx hb dX0_areTwins_77 ?_
        refine lv_topi (fun x_237 ex_237 => ?_)
        have hx_237 : rg (0) (1) x_237 := by rw [ex_237]; exact rg_mono (rg_andr (b := 1) (rg_mono (rg_k (x := 1) (c := 1) (by decide)) (by decide) (by decide))) (by decide) (by decide)
        have kx_237_0 : rg 1 2147483647 x_237 → rg 1 (511) x_236 := fun hq => rg_andP hx_236 (ex_237 ▸ hq)
        refine lv_icmp_ne (tgt := 85) hx hb dX0_areTwins_78 (by decide) (fun c_238 => ?_) (fun c_238 => ?_)
        · skip
          refine lv_iconst (v := 0) hx hb dX0_areTwins_85 (by decide) ?_
          refine lv_istore (lv' := [(5, .int 0), (6, .int x_208), (4, .int x_4), (0, .ref h0), (1, .ref h7), (2, .int p1), (3, .int p2)]) hx hb dX0_areTwins_86 hl (by decide) rfl (fun ls hl => ?_)
          obtain ⟨x_239, ex_239⟩ : ∃ y : Int32, y = x_208 + Int32.ofInt (1) := ⟨_, rfl⟩
          have hx_239 : rg (1) (9) x_239 := by rw [ex_239]; exact rg_mono (rg_add h_227 (rg_k (x := Int32.ofInt (1)) (c := 1) (by decide)) (by decide) (by decide)) (by decide) (by decide)
          have qx_239 : x_239.toInt = x_208.toInt + (1) := by rw [ex_239]; exact rg_addE h_227 (rg_k (x := Int32.ofInt (1)) (c := 1) (by decide)) (by decide) (by decide) (by decide)
          refine lv_iinc (v := x_239) (lv' := [(6, .int x_239), (5, .int 0), (4, .int x_4), (0, .ref h0), (1, .ref h7), (2, .int p1), (3, .int p2)]) hx hb dX0_areTwins_88 hl (k := 1) rfl (ex_239.symm) (by decide) rfl (fun ls hl => ?_)
          clear ex_239
          refine lv_goto (tgt := 42) hx hb dX0_areTwins_91 (by decide) ?_
          exact ih_225 (x_239, 0) H locs ls ⟨hP.sub (ws' := [(h0, .inr (0, [.ref h1, .ref h2, .ref h3, .ref h4, .ref h5, .ref h6, .int a0, .int a1, .int a2, .int a3])), (h7, .inr (7, [.ref h8, .ref h9, .ref h10, .ref h11, .ref h12, .ref h13, .int a4, .int a5, .int a6, .int a7, .int a8, .int a9, .int a10, .int a11])), (h8, .inl (cI, 9, .inl g6)), (h9, .inl (cI, 9, .inl g7))]) [0, 1, 2, 3] rfl, hD.sub (ws' := [(h0, .inr (0, [.ref h1, .ref h2, .ref h3, .ref h4, .ref h5, .ref h6, .int a0, .int a1, .int a2, .int a3])), (h7, .inr (7, [.ref h8, .ref h9, .ref h10, .ref h11, .ref h12, .ref h13, .int a4, .int a5, .int a6, .int a7, .int a8, .int a9, .int a10, .int a11])), (h8, .inl (cI, 9, .inl g6)), (h9, .inl (cI, 9, .inl g7))]) [0, 1, 2, 3] (by decide) rfl, hS, lv_sub hl [0, 1, 2, 3, 4, 5, 6] rfl, (rg_mono hx_239 (by decide) (by decide)), (rg_mono (rg_k (x := 0) (c := 0) (by decide)) (by decide) (by decide))⟩ (by show ((9) - x_239.toInt).toNat < ((9) - x_208.toInt).toNat; have ha := h_227; simp only [rg] at ha; omega)
        · skip
          refine lv_iconst (v := 1) hx hb dX0_areTwins_81 (by decide) ?_
          refine lv_goto (tgt := 86) hx hb dX0_areTwins_82 (by decide) ?_
          refine lv_istore (lv' := [(5, .int 1), (6, .int x_208), (4, .int x_4), (0, .ref h0), (1, .ref h7), (2, .int p1), (3, .int p2)]) hx hb dX0_areTwins_86 hl (by decide) rfl (fun ls hl => ?_)
          obtain ⟨x_240, ex_240⟩ : ∃ y : Int32, y = x_208 + Int32.ofInt (1) := ⟨_, rfl⟩
          have hx_240 : rg (1) (9) x_240 := by rw [ex_240]; exact rg_mono (rg_add h_227 (rg_k (x := Int32.ofInt (1)) (c := 1) (by decide)) (by decide) (by decide)) (by decide) (by decide)
          have qx_240 : x_240.toInt = x_208.toInt + (1) := by rw [ex_240]; exact rg_addE h_227 (rg_k (x := Int32.ofInt (1)) (c := 1) (by decide)) (by decide) (by decide) (by decide)
          refine lv_iinc (v := x_240) (lv' := [(6, .int x_240), (5, .int 1), (4, .int x_4), (0, .ref h0), (1, .ref h7), (2, .int p1), (3, .int p2)]) hx hb dX0_areTwins_88 hl (k := 1) rfl (ex_240.symm) (by decide) rfl (fun ls hl => ?_)
          clear ex_240
          refine lv_goto (tgt := 42) hx hb dX0_areTwins_91 (by decide) ?_
          exact ih_225 (x_240, 1) H locs ls ⟨hP.sub (ws' := [(h0, .inr (0, [.ref h1, .ref h2, .ref h3, .ref h4, .ref h5, .ref h6, .int a0, .int a1, .int a2, .int a3])), (h7, .inr (7, [.ref h8, .ref h9, .ref h10, .ref h11, .ref h12, .ref h13, .int a4, .int a5, .int a6, .int a7, .int a8, .int a9, .int a10, .int a11])), (h8, .inl (cI, 9, .inl g6)), (h9, .inl (cI, 9, .inl g7))]) [0, 1, 2, 3] rfl, hD.sub (ws' := [(h0, .inr (0, [.ref h1, .ref h2, .ref h3, .ref h4, .ref h5, .ref h6, .int a0, .int a1, .int a2, .int a3])), (h7, .inr (7, [.ref h8, .ref h9, .ref h10, .ref h11, .ref h12, .ref h13, .int a4, .int a5, .int a6, .int a7, .int a8, .int a9, .int a10, .int a11])), (h8, .inl (cI, 9, .inl g6)), (h9, .inl (cI, 9, .inl g7))]) [0, 1, 2, 3] (by decide) rfl, hS, lv_sub hl [0, 1, 2, 3, 4, 5, 6] rfl, (rg_mono hx_240 (by decide) (by decide)), (rg_mono (rg_k (x := 1) (c := 1) (by decide)) (by decide) (by decide))⟩ (by show ((9) - x_240.toInt).toNat < ((9) - x_208.toInt).toNat; have ha := h_227; simp only [rg] at ha; omega)
def v_s_X0_mayLead : List Cond := Cond.code yX0_mayLead cX0_mayLead 5 (some .boolean) :: ([Cond.fieldLink RX0 37 "MayRings$Families" "size" "I", Cond.fieldLink RX0 27 "MayRings$Families" "twins" "[I"] ++ (wsX00 ++ ([])))
theorem k_s_X0_mayLead : GoodIn lw_tbl v_s_X0_mayLead := gd_c (List.mem_of_getElem? (i := 1070) (by decide +kernel)) rfl (goodIn_app (gd_c (List.mem_of_getElem? (i := 508) (by decide +kernel)) rfl (gd_c (List.mem_of_getElem? (i := 505) (by decide +kernel)) rfl (gd_nil))) (goodIn_app kfX0 (gd_nil)))
set_option maxHeartbeats 2000000 in
set_option maxRecDepth 100000 in
theorem c_s_X0_mayLead (l : Launch) (dC : Nat → ClassId) (dI : Nat → Nat → Nat) (cB cI cJ cZ cP : ClassId) (h0 : Nat) (h1 : Nat) (h2 : Nat) (h3 : Nat) (h4 : Nat) (h5 : Nat) (h6 : Nat) (g5 : Nat → Int32) (a0 : Int32) (a1 : Int32) (a2 : Int32) (ha2 : rg (0) (9) a2) (a3 : Int32) (p0 : Int32) (sz : Nat) : Met l yX0_mayLead v_s_X0_mayLead ({ frames := 0, cells := 0, slots := 0, locals := 0 }) (va_Pc [.ref h0, .int p0] (fun U => U.heap.size = sz ∧ va_P (dC, dI) vwCl [(h0, .inr (0, [.ref h1, .ref h2, .ref h3, .ref h4, .ref h5, .ref h6, .int a0, .int a1, .int a2, .int a3])), (h6, .inl (cI, 9, .inl g5))] U.heap ∧ va_K (dC, dI) vwCl (ty5 cB cI cJ cZ cP) U ∧ va_D (fun _ => True) [(h0, .inr (0, [.ref h1, .ref h2, .ref h3, .ref h4, .ref h5, .ref h6, .int a0, .int a1, .int a2, .int a3])), (h6, .inl (cI, 9, .inl g5))])) (va_Qi (fun (r : Int32) (u9 : Unit) => rg (0) (1) r) (fun u9 t => va_P (dC, dI) vwCl [(h0, .inr (0, [.ref h1, .ref h2, .ref h3, .ref h4, .ref h5, .ref h6, .int a0, .int a1, .int a2, .int a3])), (h6, .inl (cI, 9, .inl g5))] t.heap ∧ va_D (va_A [(h0, .inr (0, [.ref h1, .ref h2, .ref h3, .ref h4, .ref h5, .ref h6, .int a0, .int a1, .int a2, .int a3])), (h6, .inl (cI, 9, .inl g5))] sz) [(h0, .inr (0, [.ref h1, .ref h2, .ref h3, .ref h4, .ref h5, .ref h6, .int a0, .int a1, .int a2, .int a3])), (h6, .inl (cI, 9, .inl g5))]) (va_A [(h0, .inr (0, [.ref h1, .ref h2, .ref h3, .ref h4, .ref h5, .ref h6, .int a0, .int a1, .int a2, .int a3])), (h6, .inl (cI, 9, .inl g5))] sz)) 0 0 (va_A [(h0, .inr (0, [.ref h1, .ref h2, .ref h3, .ref h4, .ref h5, .ref h6, .int a0, .int a1, .int a2, .int a3])), (h6, .inl (cI, 9, .inl g5))] sz) := by
  refine Met.ofW (cc := cX0_mayLead) (maxL := 5) (ret := (some .boolean)) (by decide) rfl ?_
  intro p e s m args below meth c s₁ B hml hv
  obtain ⟨rfl, hsz, hP, hK, hD0⟩ := hv
  have hx := B.exec
  have hb := B.bytes
  have hr := B.returns
  have hts := atoms_spec (ws := v_s_X0_mayLead) B.pre
  have hown : s.vm.findClass RX0 = some m.cls := findClass_of_methodNamed B.named
  have hlocks := B.notSynchronized
  have hinX0 : ∀ w ∈ wsX00, w ∈ v_s_X0_mayLead := fun _ h => List.mem_cons_of_mem _ (List.mem_append_right _ (List.mem_append_left _ h))
  subst hsz
  have hD := hD0.self (sz := s.heap.size)
  generalize hAe : va_A [(h0, .inr (0, [.ref h1, .ref h2, .ref h3, .ref h4, .ref h5, .ref h6, .int a0, .int a1, .int a2, .int a3])), (h6, .inl (cI, 9, .inl g5))] s.heap.size = A at hD ⊢
  have hA : ∀ q : Nat, s.heap.size ≤ q → A q := fun q h => by rw [← hAe]; exact Or.inr h
  have hP : va_P (dC, dI) vwCl [(h0, .inr (0, [.ref h1, .ref h2, .ref h3, .ref h4, .ref h5, .ref h6, .int a0, .int a1, .int a2, .int a3])), (h6, .inl (cI, 9, .inl g5))] s.heap := hP
  have hl := lv_entry ([.ref h0, .int p0]) (n := 5) (Nat.le_of_ble_eq_true rfl)
  rw [lg_entry_eq]
  generalize (lg_sl ([.ref h0, .int p0]) ++ List.replicate (5 - (lg_sl ([.ref h0, .int p0])).length) Slot.unset).toArray = ls at hl ⊢
  have hl : lv_has ls 5 [(0, .ref h0), (1, .int p0)] := hl
  refine W_gen (A := A) hP (fun H locs hP hS => ?_)
  refine lv_iconst (v := 0) hx hb dX0_mayLead_0 (by decide) ?_
  refine lv_istore_n (lv' := [(2, .int 0), (0, .ref h0), (1, .int p0)]) hx hb dX0_mayLead_1 rfl hl (by decide) rfl (fun ls hl => ?_)
  refine lv_iconst (v := 0) hx hb dX0_mayLead_2 (by decide) ?_
  refine lv_istore_n (lv' := [(3, .int 0), (2, .int 0), (0, .ref h0), (1, .int p0)]) hx hb dX0_mayLead_3 rfl hl (by decide) rfl (fun ls hl => ?_)
  refine W_loopM (σ := Int32 × Int32) (fun u H locs ls => va_P (dC, dI) vwCl [(h0, .inr (0, [.ref h1, .ref h2, .ref h3, .ref h4, .ref h5, .ref h6, .int a0, .int a1, .int a2, .int a3])), (h6, .inl (cI, 9, .inl g5))] H ∧ va_D A [(h0, .inr (0, [.ref h1, .ref h2, .ref h3, .ref h4, .ref h5, .ref h6, .int a0, .int a1, .int a2, .int a3])), (h6, .inl (cI, 9, .inl g5))] ∧ va_S A s.heap H locs ∧ lv_has ls 5 [(3, .int u.1), (2, .int u.2), (0, .ref h0), (1, .int p0)] ∧ rg (0) (9) u.1 ∧ rg (0) (511) u.2) (fun u => ((9) - u.1.toInt).toNat) 4 [] ?_ (0, 0) H locs ls ⟨hP, hD, hS, hl, (rg_mono (rg_k (x := 0) (c := 0) (by decide)) (by decide) (by decide)), (rg_mono (rg_k (x := 0) (c := 0) (by decide)) (by decide) (by decide))⟩
  rintro ⟨x_167, x_168⟩ H locs ls ⟨hP, hD, hS, hl, hx_167, hx_168⟩ ih_186
  replace hP : va_P (dC, dI) vwCl [(h0, .inr (0, [.ref h1, .ref h2, .ref h3, .ref h4, .ref h5, .ref h6, .int a0, .int a1, .int a2, .int a3])), (h6, .inl (cI, 9, .inl g5))] H := hP
  replace hD : va_D A [(h0, .inr (0, [.ref h1, .ref h2, .ref h3, .ref h4, .ref h5, .ref h6, .int a0, .int a1, .int a2, .int a3])), (h6, .inl (cI, 9, .inl g5))] := hD
  replace hl : lv_has ls 5 [(3, .int x_167), (2, .int x_168), (0, .ref h0), (1, .int p0)] := hl
  replace hx_167 : rg (0) (9) x_167 := hx_167
  replace hx_168 : rg (0) (511) x_168 := hx_168
  refine lv_iload_n hx hb dX0_mayLead_4 rfl (lv_at hl 0 rfl) ?_
  refine lv_aload_n hx hb dX0_mayLead_5 rfl (lv_at hl 2 rfl) ?_
  refine va_get (D := (dC, dI)) (ci := 0) (v := .int a2) (C := RX0) (T := TX0) (N := 10) hx hb hts hinX0 hown hK hP 0 rfl rfl 8 (by decide) (hts (.fieldLink RX0 37 "MayRings$Families" "size" "I") (List.mem_of_getElem? (i := 1) rfl)) (fun _ h9 => h9) rfl dX0_mayLead_6 ?_
  refine lv_icmp_ge (tgt := 58) hx hb dX0_mayLead_9 (by decide) (fun c_187 => ?_) (fun c_187 => ?_)
  · skip
    refine lv_iconst (v := 1) hx hb dX0_mayLead_58 (by decide) ?_
    have hP9 := hP.sub (ws' := [(h0, .inr (0, [.ref h1, .ref h2, .ref h3, .ref h4, .ref h5, .ref h6, .int a0, .int a1, .int a2, .int a3])), (h6, .inl (cI, 9, .inl g5))]) [0, 1] rfl
    have hD9 := hD.sub (ws' := [(h0, .inr (0, [.ref h1, .ref h2, .ref h3, .ref h4, .ref h5, .ref h6, .int a0, .int a1, .int a2, .int a3])), (h6, .inl (cI, 9, .inl g5))]) [0, 1] (by decide) rfl
    exact W.zret (v := 1) hx hb hr (rfl) (fun t ht hW => ⟨⟨1, (), rfl, (rg_mono (rg_k (x := 1) (c := 1) (by decide)) (by decide) (by decide)), ⟨by rw [ht]; exact hP9, hD9⟩⟩, hS.F ht⟩) hS.2.2 dX0_mayLead_59
  · skip
    have h_188 : rg (0) (8) x_167 := by have ha := hx_167; have hb_ := ha2; simp only [rg, fa_lt, fa_le, fa_eq] at ha hb_ c_187; simp only [rg]; omega
    have h_189 : rg (1) (9) a2 := by have ha := hx_167; have hb_ := ha2; simp only [rg, fa_lt, fa_le, fa_eq] at ha hb_ c_187; simp only [rg]; omega
    refine lv_iload_n hx hb dX0_mayLead_12 rfl (lv_at hl 3 rfl) ?_
    refine lv_iconst (v := 4) hx hb dX0_mayLead_13 (by decide) ?_
    refine lv_iload_n hx hb dX0_mayLead_14 rfl (lv_at hl 0 rfl) ?_
    refine lv_imul hx hb dX0_mayLead_15 ?_
    refine lv_topi (fun x_190 ex_190 => ?_)
    have hx_190 : rg (0) (32) x_190 := by rw [ex_190]; exact rg_mono (rg_mul (rg_k (x := 4) (c := 4) (by decide)) h_188 (by decide) (by decide) (by decide)) (by decide) (by decide)
    refine lv_iushr hx hb dX0_mayLead_16 rfl ?_
    refine lv_topi (fun x_191 ex_191 => ?_)
    refine lv_bipush (v := 15) hx hb dX0_mayLead_17 (by decide) ?_
    refine lv_iand hx hb dX0_mayLead_19 ?_
    refine lv_topi (fun x_192 ex_192 => ?_)
    have hx_192 : rg (0) (15) x_192 := by rw [ex_192]; exact rg_mono (rg_andr (b := 15) (rg_mono (rg_k (x := 15) (c := 15) (by decide)) (by decide) (by decide))) (by decide) (by decide)
    refine lv_istore (lv' := [(4, .int x_192), (3, .int x_167), (2, .int x_168), (0, .ref h0), (1, .int p0)]) hx hb dX0_mayLead_20 hl (by decide) rfl (fun ls hl => ?_)
    refine lv_iload hx hb dX0_mayLead_22 (lv_at hl 0 rfl) ?_
    refine lv_bipush (v := 9) hx hb dX0_mayLead_24 (by decide) ?_
    refine lv_icmp_ge (tgt := 43) hx hb dX0_mayLead_26 (by decide) (fun c_193 => ?_) (fun c_193 => ?_)
    · skip
      have h_194 : rg (9) (15) x_192 := by have ha := hx_192; have hb_ := (rg_k (x := 9) (c := 9) (by decide)); simp only [rg, fa_lt, fa_le, fa_eq, (by decide : (9 : Int32).toInt = 9)] at ha hb_ c_193; simp only [rg]; omega
      refine lv_iconst (v := 0) hx hb dX0_mayLead_43 (by decide) ?_
      have hP9 := hP.sub (ws' := [(h0, .inr (0, [.ref h1, .ref h2, .ref h3, .ref h4, .ref h5, .ref h6, .int a0, .int a1, .int a2, .int a3])), (h6, .inl (cI, 9, .inl g5))]) [0, 1] rfl
      have hD9 := hD.sub (ws' := [(h0, .inr (0, [.ref h1, .ref h2, .ref h3, .ref h4, .ref h5, .ref h6, .int a0, .int a1, .int a2, .int a3])), (h6, .inl (cI, 9, .inl g5))]) [0, 1] (by decide) rfl
      exact W.zret (v := 0) hx hb hr (rfl) (fun t ht hW => ⟨⟨0, (), rfl, (rg_mono (rg_k (x := 0) (c := 0) (by decide)) (by decide) (by decide)), ⟨by rw [ht]; exact hP9, hD9⟩⟩, hS.F ht⟩) hS.2.2 dX0_mayLead_44
    · skip
      have h_195 : rg (0) (8) x_192 := by have ha := hx_192; have hb_ := (rg_k (x := 9) (c := 9) (by decide)); simp only [rg, fa_lt, fa_le, fa_eq, (by decide : (9 : Int32).toInt = 9)] at ha hb_ c_193; simp only [rg]; omega
      refine lv_aload_n hx hb dX0_mayLead_29 rfl (lv_at hl 3 rfl) ?_
      refine va_get (D := (dC, dI)) (ci := 0) (v := .ref h6) (C := RX0) (T := TX0) (N := 10) hx hb hts hinX0 hown hK hP 0 rfl rfl 5 (by decide) (hts (.fieldLink RX0 27 "MayRings$Families" "twins" "[I") (List.mem_of_getElem? (i := 2) rfl)) (fun _ h9 => h9) rfl dX0_mayLead_30 ?_
      refine lv_iload hx hb dX0_mayLead_33 (lv_at hl 0 rfl) ?_
      refine va_iald hx hb hK hP 1 1 rfl rfl (rg_in (n := 9) (rg_mono h_195 (by decide) (by decide))) dX0_mayLead_35 ?_
      refine lv_topi (fun x_196 ex_196 => ?_)
      refine lv_iload_n hx hb dX0_mayLead_36 rfl (lv_at hl 2 rfl) ?_
      refine lv_iconst (v := (-1)) hx hb dX0_mayLead_37 (by decide) ?_
      refine lv_ixor hx hb dX0_mayLead_38 ?_
      refine lv_topi (fun x_197 ex_197 => ?_)
      refine lv_iand hx hb dX0_mayLead_39 ?_
      refine lv_topi (fun x_198 ex_198 => ?_)
      refine lv_if_eq (tgt := 45) hx hb dX0_mayLead_40 (by decide) (fun c_199 => ?_) (fun c_199 => ?_)
      · skip
        have h_200 : rg (0) (0) x_198 := by have ha := (rg_any x_198); have hb_ := (rg_k (x := 0) (c := 0) (by decide)); simp only [rg, fa_lt, fa_le, fa_eq, (by decide : (0 : Int32).toInt = 0)] at ha hb_ c_199; simp only [rg]; omega
        refine lv_iload_n hx hb dX0_mayLead_45 rfl (lv_at hl 2 rfl) ?_
        refine lv_iconst (v := 1) hx hb dX0_mayLead_46 (by decide) ?_
        refine lv_iload hx hb dX0_mayLead_47 (lv_at hl 0 rfl) ?_
        refine lv_ishl hx hb dX0_mayLead_49 ?_
        refine lv_topi (fun x_201 ex_201 => ?_)
        have hx_201 : rg (1) (256) x_201 := by rw [ex_201]; exact rg_mono (rg_shl1 8 (rg_mono h_195 (by decide) (by decide)) (by decide)) (by decide) (by decide)
        refine lv_ior hx hb dX0_mayLead_50 ?_
        refine lv_topi (fun x_202 ex_202 => ?_)
        have hx_202 : rg (0) (511) x_202 := by rw [ex_202]; exact rg_mono (rg_or 9 (rg_mono hx_168 (by decide) (by decide)) (rg_mono hx_201 (by decide) (by decide)) (by decide)) (by decide) (by decide)
        refine lv_istore_n (lv' := [(2, .int x_202), (4, .int x_192), (3, .int x_167), (0, .ref h0), (1, .int p0)]) hx hb dX0_mayLead_51 rfl hl (by decide) rfl (fun ls hl => ?_)
        obtain ⟨x_203, ex_203⟩ : ∃ y : Int32, y = x_167 + Int32.ofInt (1) := ⟨_, rfl⟩
        have hx_203 : rg (1) (9) x_203 := by rw [ex_203]; exact rg_mono (rg_add h_188 (rg_k (x := Int32.ofInt (1)) (c := 1) (by decide)) (by decide) (by decide)) (by decide) (by decide)
        have qx_203 : x_203.toInt = x_167.toInt + (1) := by rw [ex_203]; exact rg_addE h_188 (rg_k (x := Int32.ofInt (1)) (c := 1) (by decide)) (by decide) (by decide) (by decide)
        refine lv_iinc (v := x_203) (lv' := [(3, .int x_203), (2, .int x_202), (4, .int x_192), (0, .ref h0), (1, .int p0)]) hx hb dX0_mayLead_52 hl (k := 2) rfl (ex_203.symm) (by decide) rfl (fun ls hl => ?_)
        clear ex_203
        refine lv_goto (tgt := 4) hx hb dX0_mayLead_55 (by decide) ?_
        exact ih_186 (x_203, x_202) H locs ls ⟨hP.sub (ws' := [(h0, .inr (0, [.ref h1, .ref h2, .ref h3, .ref h4, .ref h5, .ref h6, .int a0, .int a1, .int a2, .int a3])), (h6, .inl (cI, 9, .inl g5))]) [0, 1] rfl, hD.sub (ws' := [(h0, .inr (0, [.ref h1, .ref h2, .ref h3, .ref h4, .ref h5, .ref h6, .int a0, .int a1, .int a2, .int a3])), (h6, .inl (cI, 9, .inl g5))]) [0, 1] (by decide) rfl, hS, lv_sub hl [0, 1, 3, 4] rfl, (rg_mono hx_203 (by decide) (by decide)), (rg_mono hx_202 (by decide) (by decide))⟩ (by show ((9) - x_203.toInt).toNat < ((9) - x_167.toInt).toNat; have ha := h_188; simp only [rg] at ha; omega)
      · skip
        refine lv_iconst (v := 0) hx hb dX0_mayLead_43 (by decide) ?_
        have hP9 := hP.sub (ws' := [(h0, .inr (0, [.ref h1, .ref h2, .ref h3, .ref h4, .ref h5, .ref h6, .int a0, .int a1, .int a2, .int a3])), (h6, .inl (cI, 9, .inl g5))]) [0, 1] rfl
        have hD9 := hD.sub (ws' := [(h0, .inr (0, [.ref h1, .ref h2, .ref h3, .ref h4, .ref h5, .ref h6, .int a0, .int a1, .int a2, .int a3])), (h6, .inl (cI, 9, .inl g5))]) [0, 1] (by decide) rfl
        exact W.zret (v := 0) hx hb hr (rfl) (fun t ht hW => ⟨⟨0, (), rfl, (rg_mono (rg_k (x := 0) (c := 0) (by decide)) (by decide) (by decide)), ⟨by rw [ht]; exact hP9, hD9⟩⟩, hS.F ht⟩) hS.2.2 dX0_mayLead_44
def v_s_X0_keepApart : List Cond := Cond.code yX0_keepApart cX0_keepApart 5 none :: ([Cond.fieldLink RX0 11 "MayRings$Families" "sets" "[I", Cond.fieldLink RX0 34 "MayRings$Families" "restCount" "I", Cond.fieldLink RX0 30 "MayRings$Families" "count" "I", Cond.fieldLink RX0 18 "MayRings$Families" "rest" "[I"] ++ (wsX00 ++ ([])))
theorem k_s_X0_keepApart : GoodIn lw_tbl v_s_X0_keepApart := gd_c (List.mem_of_getElem? (i := 1078) (by decide +kernel)) rfl (goodIn_app (gd_c (List.mem_of_getElem? (i := 500) (by decide +kernel)) rfl (gd_c (List.mem_of_getElem? (i := 507) (by decide +kernel)) rfl (gd_c (List.mem_of_getElem? (i := 506) (by decide +kernel)) rfl (gd_c (List.mem_of_getElem? (i := 502) (by decide +kernel)) rfl (gd_nil))))) (goodIn_app kfX0 (gd_nil)))
set_option maxHeartbeats 2000000 in
set_option maxRecDepth 100000 in
theorem c_s_X0_keepApart (l : Launch) (dC : Nat → ClassId) (dI : Nat → Nat → Nat) (cB cI cJ cZ cP : ClassId) (h0 : Nat) (h1 : Nat) (g0 : Nat → Int32) (h2 : Nat) (h3 : Nat) (g2 : Nat → Int32) (h4 : Nat) (h5 : Nat) (h6 : Nat) (a0 : Int32) (ha0 : rg (0) (2520) a0) (a1 : Int32) (a2 : Int32) (a3 : Int32) (p0 : Int32) (hp0 : rg (0) (2519) p0) (p1 : Int32) (hp1 : rg (0) (2520) p1) (sz : Nat) : Met l yX0_keepApart v_s_X0_keepApart ({ frames := 0, cells := 0, slots := 0, locals := 0 }) (va_Pc [.ref h0, .int p0, .int p1] (fun U => U.heap.size = sz ∧ va_P (dC, dI) vwCl [(h0, .inr (0, [.ref h1, .ref h2, .ref h3, .ref h4, .ref h5, .ref h6, .int a0, .int a1, .int a2, .int a3])), (h1, .inl (cI, 2520, .inl g0)), (h3, .inl (cI, 2520, .inl g2))] U.heap ∧ va_K (dC, dI) vwCl (ty5 cB cI cJ cZ cP) U ∧ va_D (fun _ => True) [(h0, .inr (0, [.ref h1, .ref h2, .ref h3, .ref h4, .ref h5, .ref h6, .int a0, .int a1, .int a2, .int a3])), (h1, .inl (cI, 2520, .inl g0)), (h3, .inl (cI, 2520, .inl g2))])) (va_Qv (fun _ : Unit => True) (fun _ t => ∃ (z0 : Int32) (z1 : Nat → Int32), rg (0) (2520) z0 ∧ va_P (dC, dI) vwCl [(h0, .inr (0, [.ref h1, .ref h2, .ref h3, .ref h4, .ref h5, .ref h6, .int a0, .int z0, .int a2, .int a3])), (h1, .inl (cI, 2520, .inl g0)), (h3, .inl (cI, 2520, .inl z1))] t.heap ∧ va_D (va_A [(h0, .inr (0, [.ref h1, .ref h2, .ref h3, .ref h4, .ref h5, .ref h6, .int a0, .int a1, .int a2, .int a3])), (h1, .inl (cI, 2520, .inl g0)), (h3, .inl (cI, 2520, .inl g2))] sz) [(h0, .inr (0, [.ref h1, .ref h2, .ref h3, .ref h4, .ref h5, .ref h6, .int a0, .int z0, .int a2, .int a3])), (h1, .inl (cI, 2520, .inl g0)), (h3, .inl (cI, 2520, .inl z1))]) (va_A [(h0, .inr (0, [.ref h1, .ref h2, .ref h3, .ref h4, .ref h5, .ref h6, .int a0, .int a1, .int a2, .int a3])), (h1, .inl (cI, 2520, .inl g0)), (h3, .inl (cI, 2520, .inl g2))] sz)) 0 0 (va_A [(h0, .inr (0, [.ref h1, .ref h2, .ref h3, .ref h4, .ref h5, .ref h6, .int a0, .int a1, .int a2, .int a3])), (h1, .inl (cI, 2520, .inl g0)), (h3, .inl (cI, 2520, .inl g2))] sz) := by
  refine Met.ofW (cc := cX0_keepApart) (maxL := 5) (ret := none) (by decide) rfl ?_
  intro p e s m args below meth c s₁ B hml hv
  obtain ⟨rfl, hsz, hP, hK, hD0⟩ := hv
  have hx := B.exec
  have hb := B.bytes
  have hr := B.returns
  have hts := atoms_spec (ws := v_s_X0_keepApart) B.pre
  have hown : s.vm.findClass RX0 = some m.cls := findClass_of_methodNamed B.named
  have hlocks := B.notSynchronized
  have hinX0 : ∀ w ∈ wsX00, w ∈ v_s_X0_keepApart := fun _ h => List.mem_cons_of_mem _ (List.mem_append_right _ (List.mem_append_left _ h))
  subst hsz
  have hD := hD0.self (sz := s.heap.size)
  generalize hAe : va_A [(h0, .inr (0, [.ref h1, .ref h2, .ref h3, .ref h4, .ref h5, .ref h6, .int a0, .int a1, .int a2, .int a3])), (h1, .inl (cI, 2520, .inl g0)), (h3, .inl (cI, 2520, .inl g2))] s.heap.size = A at hD ⊢
  have hA : ∀ q : Nat, s.heap.size ≤ q → A q := fun q h => by rw [← hAe]; exact Or.inr h
  have hP : va_P (dC, dI) vwCl [(h0, .inr (0, [.ref h1, .ref h2, .ref h3, .ref h4, .ref h5, .ref h6, .int a0, .int a1, .int a2, .int a3])), (h1, .inl (cI, 2520, .inl g0)), (h3, .inl (cI, 2520, .inl g2))] s.heap := hP
  have hl := lv_entry ([.ref h0, .int p0, .int p1]) (n := 5) (Nat.le_of_ble_eq_true rfl)
  rw [lg_entry_eq]
  generalize (lg_sl ([.ref h0, .int p0, .int p1]) ++ List.replicate (5 - (lg_sl ([.ref h0, .int p0, .int p1])).length) Slot.unset).toArray = ls at hl ⊢
  have hl : lv_has ls 5 [(0, .ref h0), (1, .int p0), (2, .int p1)] := hl
  refine W_gen (A := A) hP (fun H locs hP hS => ?_)
  refine lv_aload_n hx hb dX0_keepApart_0 rfl (lv_at hl 0 rfl) ?_
  refine va_get (D := (dC, dI)) (ci := 0) (v := .ref h1) (C := RX0) (T := TX0) (N := 10) hx hb hts hinX0 hown hK hP 0 rfl rfl 0 (by decide) (hts (.fieldLink RX0 11 "MayRings$Families" "sets" "[I") (List.mem_of_getElem? (i := 1) rfl)) (fun _ h9 => h9) rfl dX0_keepApart_1 ?_
  refine lv_iload_n hx hb dX0_keepApart_4 rfl (lv_at hl 1 rfl) ?_
  refine va_iald hx hb hK hP 1 1 rfl rfl (rg_in (n := 2520) (rg_mono hp0 (by decide) (by decide))) dX0_keepApart_5 ?_
  refine lv_topi (fun x_1 ex_1 => ?_)
  refine lv_istore_n (lv' := [(3, .int x_1), (0, .ref h0), (1, .int p0), (2, .int p1)]) hx hb dX0_keepApart_6 rfl hl (by decide) rfl (fun ls hl => ?_)
  refine lv_aload_n hx hb dX0_keepApart_7 rfl (lv_at hl 1 rfl) ?_
  refine lv_iconst (v := 0) hx hb dX0_keepApart_8 (by decide) ?_
  refine va_put (D := (dC, dI)) (ci := 0) (v := .int 0) (ty := .int) (C := RX0) (T := TX0) (N := 10) hx hb hts hinX0 tyX0 tyX0_ok nmX0 hown hK hP hD hS 0 rfl rfl 7 (by decide) (hts (.fieldLink RX0 34 "MayRings$Families" "restCount" "I") (List.mem_of_getElem? (i := 2) rfl)) (fun _ h9 => h9) rfl (by decide +kernel) (rfl) (rfl) (Nat.le_of_ble_eq_true rfl) dX0_keepApart_9 (fun H locs hP hD hS => ?_)
  replace hP : va_P (dC, dI) vwCl [(h0, .inr (0, [.ref h1, .ref h2, .ref h3, .ref h4, .ref h5, .ref h6, .int a0, .int 0, .int a2, .int a3])), (h1, .inl (cI, 2520, .inl g0)), (h3, .inl (cI, 2520, .inl g2))] H := hP
  replace hD : va_D A [(h0, .inr (0, [.ref h1, .ref h2, .ref h3, .ref h4, .ref h5, .ref h6, .int a0, .int 0, .int a2, .int a3])), (h1, .inl (cI, 2520, .inl g0)), (h3, .inl (cI, 2520, .inl g2))] := hD
  refine lv_iload_n hx hb dX0_keepApart_12 rfl (lv_at hl 3 rfl) ?_
  refine lv_istore (lv' := [(4, .int p1), (3, .int x_1), (0, .ref h0), (1, .int p0), (2, .int p1)]) hx hb dX0_keepApart_13 hl (by decide) rfl (fun ls hl => ?_)
  refine W_loopM (σ := Int32 × (Nat → Int32) × Int32) (fun u H locs ls => va_P (dC, dI) vwCl [(h0, .inr (0, [.ref h1, .ref h2, .ref h3, .ref h4, .ref h5, .ref h6, .int a0, .int u.2.2, .int a2, .int a3])), (h1, .inl (cI, 2520, .inl g0)), (h3, .inl (cI, 2520, .inl u.2.1))] H ∧ va_D A [(h0, .inr (0, [.ref h1, .ref h2, .ref h3, .ref h4, .ref h5, .ref h6, .int a0, .int u.2.2, .int a2, .int a3])), (h1, .inl (cI, 2520, .inl g0)), (h3, .inl (cI, 2520, .inl u.2.1))] ∧ va_S A s.heap H locs ∧ lv_has ls 5 [(4, .int u.1), (3, .int x_1), (0, .ref h0), (1, .int p0), (2, .int p1)] ∧ rg (0) (2520) u.1 ∧ rg (0) (2520) u.2.2 ∧ (u.2.2.toInt ≤ u.1.toInt)) (fun u => ((2520) - u.1.toInt).toNat) 15 [] ?_ (p1, g2, 0) H locs ls ⟨hP, hD, hS, hl, (rg_mono hp1 (by decide) (by decide)), (rg_mono (rg_k (x := 0) (c := 0) (by decide)) (by decide) (by decide)), (show (0 : Int32).toInt ≤ p1.toInt by have hg0 := hp1; simp only [rg] at hg0; try simp only [(by decide : (0 : Int32).toInt = 0)]; omega)⟩
  rintro ⟨x_27, f_28, x_29⟩ H locs ls ⟨hP, hD, hS, hl, hx_27, hx_29, ivih_42_0⟩ ih_42
  replace ivih_42_0 : x_29.toInt ≤ x_27.toInt := ivih_42_0
  replace hP : va_P (dC, dI) vwCl [(h0, .inr (0, [.ref h1, .ref h2, .ref h3, .ref h4, .ref h5, .ref h6, .int a0, .int x_29, .int a2, .int a3])), (h1, .inl (cI, 2520, .inl g0)), (h3, .inl (cI, 2520, .inl f_28))] H := hP
  replace hD : va_D A [(h0, .inr (0, [.ref h1, .ref h2, .ref h3, .ref h4, .ref h5, .ref h6, .int a0, .int x_29, .int a2, .int a3])), (h1, .inl (cI, 2520, .inl g0)), (h3, .inl (cI, 2520, .inl f_28))] := hD
  replace hl : lv_has ls 5 [(4, .int x_27), (3, .int x_1), (0, .ref h0), (1, .int p0), (2, .int p1)] := hl
  replace hx_27 : rg (0) (2520) x_27 := hx_27
  replace hx_29 : rg (0) (2520) x_29 := hx_29
  refine lv_iload hx hb dX0_keepApart_15 (lv_at hl 0 rfl) ?_
  refine lv_aload_n hx hb dX0_keepApart_17 rfl (lv_at hl 2 rfl) ?_
  refine va_get (D := (dC, dI)) (ci := 0) (v := .int a0) (C := RX0) (T := TX0) (N := 10) hx hb hts hinX0 hown hK hP 0 rfl rfl 6 (by decide) (hts (.fieldLink RX0 30 "MayRings$Families" "count" "I") (List.mem_of_getElem? (i := 3) rfl)) (fun _ h9 => h9) rfl dX0_keepApart_18 ?_
  refine lv_icmp_ge (tgt := 68) hx hb dX0_keepApart_21 (by decide) (fun c_43 => ?_) (fun c_43 => ?_)
  · skip
    have hP9 := hP.sub (ws' := [(h0, .inr (0, [.ref h1, .ref h2, .ref h3, .ref h4, .ref h5, .ref h6, .int a0, .int x_29, .int a2, .int a3])), (h1, .inl (cI, 2520, .inl g0)), (h3, .inl (cI, 2520, .inl f_28))]) [0, 1, 2] rfl
    have hD9 := hD.sub (ws' := [(h0, .inr (0, [.ref h1, .ref h2, .ref h3, .ref h4, .ref h5, .ref h6, .int a0, .int x_29, .int a2, .int a3])), (h1, .inl (cI, 2520, .inl g0)), (h3, .inl (cI, 2520, .inl f_28))]) [0, 1, 2] (by decide) rfl
    exact W.vret hx hb hr (fun t ht hW => ⟨⟨(), rfl, trivial, ⟨x_29, f_28, (rg_mono hx_29 (by decide) (by decide)), by rw [ht]; exact hP9, hD9⟩⟩, hS.F ht⟩) hS.2.2 dX0_keepApart_68
  · skip
    have h_44 : rg (0) (2519) x_27 := by have ha := hx_27; have hb_ := ha0; simp only [rg, fa_lt, fa_le, fa_eq] at ha hb_ c_43; simp only [rg]; omega
    have h_45 : rg (1) (2520) a0 := by have ha := hx_27; have hb_ := ha0; simp only [rg, fa_lt, fa_le, fa_eq] at ha hb_ c_43; simp only [rg]; omega
    refine lv_aload_n hx hb dX0_keepApart_24 rfl (lv_at hl 2 rfl) ?_
    refine va_get (D := (dC, dI)) (ci := 0) (v := .ref h1) (C := RX0) (T := TX0) (N := 10) hx hb hts hinX0 hown hK hP 0 rfl rfl 0 (by decide) (hts (.fieldLink RX0 11 "MayRings$Families" "sets" "[I") (List.mem_of_getElem? (i := 1) rfl)) (fun _ h9 => h9) rfl dX0_keepApart_25 ?_
    refine lv_iload hx hb dX0_keepApart_28 (lv_at hl 0 rfl) ?_
    refine va_iald hx hb hK hP 1 1 rfl rfl (rg_in (n := 2520) (rg_mono h_44 (by decide) (by decide))) dX0_keepApart_30 ?_
    refine lv_topi (fun x_46 ex_46 => ?_)
    refine lv_iload_n hx hb dX0_keepApart_31 rfl (lv_at hl 1 rfl) ?_
    refine lv_iand hx hb dX0_keepApart_32 ?_
    refine lv_topi (fun x_47 ex_47 => ?_)
    refine lv_if_ne (tgt := 62) hx hb dX0_keepApart_33 (by decide) (fun c_48 => ?_) (fun c_48 => ?_)
    · skip
      obtain ⟨x_49, ex_49⟩ : ∃ y : Int32, y = x_27 + Int32.ofInt (1) := ⟨_, rfl⟩
      have hx_49 : rg (1) (2520) x_49 := by rw [ex_49]; exact rg_mono (rg_add h_44 (rg_k (x := Int32.ofInt (1)) (c := 1) (by decide)) (by decide) (by decide)) (by decide) (by decide)
      have qx_49 : x_49.toInt = x_27.toInt + (1) := by rw [ex_49]; exact rg_addE h_44 (rg_k (x := Int32.ofInt (1)) (c := 1) (by decide)) (by decide) (by decide) (by decide)
      refine lv_iinc (v := x_49) (lv' := [(4, .int x_49), (3, .int x_1), (0, .ref h0), (1, .int p0), (2, .int p1)]) hx hb dX0_keepApart_62 hl (k := 0) rfl (ex_49.symm) (by decide) rfl (fun ls hl => ?_)
      clear ex_49
      refine lv_goto (tgt := 15) hx hb dX0_keepApart_65 (by decide) ?_
      exact ih_42 (x_49, f_28, x_29) H locs ls ⟨hP.sub (ws' := [(h0, .inr (0, [.ref h1, .ref h2, .ref h3, .ref h4, .ref h5, .ref h6, .int a0, .int x_29, .int a2, .int a3])), (h1, .inl (cI, 2520, .inl g0)), (h3, .inl (cI, 2520, .inl f_28))]) [0, 1, 2] rfl, hD.sub (ws' := [(h0, .inr (0, [.ref h1, .ref h2, .ref h3, .ref h4, .ref h5, .ref h6, .int a0, .int x_29, .int a2, .int a3])), (h1, .inl (cI, 2520, .inl g0)), (h3, .inl (cI, 2520, .inl f_28))]) [0, 1, 2] (by decide) rfl, hS, lv_sub hl [0, 1, 2, 3, 4] rfl, (rg_mono hx_49 (by decide) (by decide)), (rg_mono hx_29 (by decide) (by decide)), (show x_29.toInt ≤ x_49.toInt by have hg0 := hx_49; have hg1 := hx_29; simp only [rg] at hg0 hg1; omega)⟩ (by show ((2520) - x_49.toInt).toNat < ((2520) - x_27.toInt).toNat; have ha := h_44; simp only [rg] at ha; omega)
    · skip
      have h_50 : rg (0) (0) x_47 := by have ha := (rg_any x_47); have hb_ := (rg_k (x := 0) (c := 0) (by decide)); simp only [rg, fa_lt, fa_le, fa_eq, (by decide : (0 : Int32).toInt = 0)] at ha hb_ c_48; simp only [rg]; omega
      refine lv_aload_n hx hb dX0_keepApart_36 rfl (lv_at hl 2 rfl) ?_
      refine va_get (D := (dC, dI)) (ci := 0) (v := .ref h3) (C := RX0) (T := TX0) (N := 10) hx hb hts hinX0 hown hK hP 0 rfl rfl 2 (by decide) (hts (.fieldLink RX0 18 "MayRings$Families" "rest" "[I") (List.mem_of_getElem? (i := 4) rfl)) (fun _ h9 => h9) rfl dX0_keepApart_37 ?_
      refine lv_aload_n hx hb dX0_keepApart_40 rfl (lv_at hl 2 rfl) ?_
      refine va_get (D := (dC, dI)) (ci := 0) (v := .int x_29) (C := RX0) (T := TX0) (N := 10) hx hb hts hinX0 hown hK hP 0 rfl rfl 7 (by decide) (hts (.fieldLink RX0 34 "MayRings$Families" "restCount" "I") (List.mem_of_getElem? (i := 2) rfl)) (fun _ h9 => h9) rfl dX0_keepApart_41 ?_
      have h_51 : rg 0 2519 x_29 := by have ha := hx_29; have hb_ := h_44; simp only [rg] at ha hb_ ⊢; omega
      refine lv_aload_n hx hb dX0_keepApart_44 rfl (lv_at hl 2 rfl) ?_
      refine va_get (D := (dC, dI)) (ci := 0) (v := .ref h1) (C := RX0) (T := TX0) (N := 10) hx hb hts hinX0 hown hK hP 0 rfl rfl 0 (by decide) (hts (.fieldLink RX0 11 "MayRings$Families" "sets" "[I") (List.mem_of_getElem? (i := 1) rfl)) (fun _ h9 => h9) rfl dX0_keepApart_45 ?_
      refine lv_iload hx hb dX0_keepApart_48 (lv_at hl 0 rfl) ?_
      refine va_iald hx hb hK hP 1 1 rfl rfl (rg_in (n := 2520) (rg_mono h_44 (by decide) (by decide))) dX0_keepApart_50 ?_
      refine tp_v (.int x_46) (congrArg Value.int (ex_46.symm)) ?_
      refine va_iast hx hb hK hP hD hS 2 1 rfl rfl (rg_in (n := 2520) (rg_mono h_51 (by decide) (by decide))) dX0_keepApart_51 (fun H locs hP hD hS => ?_)
      obtain ⟨f_52, ef_52⟩ : ∃ f : Nat → Int32, f = upd f_28 (x_29 : Int32).toNatClampNeg x_46 := ⟨_, rfl⟩
      rw [← ef_52] at hP hD
      clear ef_52
      replace hP : va_P (dC, dI) vwCl [(h0, .inr (0, [.ref h1, .ref h2, .ref h3, .ref h4, .ref h5, .ref h6, .int a0, .int x_29, .int a2, .int a3])), (h1, .inl (cI, 2520, .inl g0)), (h3, .inl (cI, 2520, .inl f_52))] H := hP
      replace hD : va_D A [(h0, .inr (0, [.ref h1, .ref h2, .ref h3, .ref h4, .ref h5, .ref h6, .int a0, .int x_29, .int a2, .int a3])), (h1, .inl (cI, 2520, .inl g0)), (h3, .inl (cI, 2520, .inl f_52))] := hD
      refine lv_aload_n hx hb dX0_keepApart_52 rfl (lv_at hl 2 rfl) ?_
      refine lv_dup hx hb dX0_keepApart_53 rfl ?_
      refine va_get (D := (dC, dI)) (ci := 0) (v := .int x_29) (C := RX0) (T := TX0) (N := 10) hx hb hts hinX0 hown hK hP 0 rfl rfl 7 (by decide) (hts (.fieldLink RX0 34 "MayRings$Families" "restCount" "I") (List.mem_of_getElem? (i := 2) rfl)) (fun _ h9 => h9) rfl dX0_keepApart_54 ?_
      refine lv_iconst (v := 1) hx hb dX0_keepApart_57 (by decide) ?_
      refine lv_iadd hx hb dX0_keepApart_58 ?_
      refine lv_topi (fun x_53 ex_53 => ?_)
      have hx_53 : rg (1) (2520) x_53 := by rw [ex_53]; exact rg_mono (rg_add h_51 (rg_k (x := 1) (c := 1) (by decide)) (by decide) (by decide)) (by decide) (by decide)
      have qx_53 : x_53.toInt = x_29.toInt + (1) := by rw [ex_53]; exact rg_addE h_51 (rg_k (x := 1) (c := 1) (by decide)) (by decide) (by decide) trivial
      refine va_put (D := (dC, dI)) (ci := 0) (v := .int x_53) (ty := .int) (C := RX0) (T := TX0) (N := 10) hx hb hts hinX0 tyX0 tyX0_ok nmX0 hown hK hP hD hS 0 rfl rfl 7 (by decide) (hts (.fieldLink RX0 34 "MayRings$Families" "restCount" "I") (List.mem_of_getElem? (i := 2) rfl)) (fun _ h9 => h9) rfl (by decide +kernel) (rfl) (rfl) (Nat.le_of_ble_eq_true rfl) dX0_keepApart_59 (fun H locs hP hD hS => ?_)
      replace hP : va_P (dC, dI) vwCl [(h0, .inr (0, [.ref h1, .ref h2, .ref h3, .ref h4, .ref h5, .ref h6, .int a0, .int x_53, .int a2, .int a3])), (h1, .inl (cI, 2520, .inl g0)), (h3, .inl (cI, 2520, .inl f_52))] H := hP
      replace hD : va_D A [(h0, .inr (0, [.ref h1, .ref h2, .ref h3, .ref h4, .ref h5, .ref h6, .int a0, .int x_53, .int a2, .int a3])), (h1, .inl (cI, 2520, .inl g0)), (h3, .inl (cI, 2520, .inl f_52))] := hD
      obtain ⟨x_54, ex_54⟩ : ∃ y : Int32, y = x_27 + Int32.ofInt (1) := ⟨_, rfl⟩
      have hx_54 : rg (1) (2520) x_54 := by rw [ex_54]; exact rg_mono (rg_add h_44 (rg_k (x := Int32.ofInt (1)) (c := 1) (by decide)) (by decide) (by decide)) (by decide) (by decide)
      have qx_54 : x_54.toInt = x_27.toInt + (1) := by rw [ex_54]; exact rg_addE h_44 (rg_k (x := Int32.ofInt (1)) (c := 1) (by decide)) (by decide) (by decide) (by decide)
      refine lv_iinc (v := x_54) (lv' := [(4, .int x_54), (3, .int x_1), (0, .ref h0), (1, .int p0), (2, .int p1)]) hx hb dX0_keepApart_62 hl (k := 0) rfl (ex_54.symm) (by decide) rfl (fun ls hl => ?_)
      clear ex_54
      refine lv_goto (tgt := 15) hx hb dX0_keepApart_65 (by decide) ?_
      exact ih_42 (x_54, f_52, x_53) H locs ls ⟨hP.sub (ws' := [(h0, .inr (0, [.ref h1, .ref h2, .ref h3, .ref h4, .ref h5, .ref h6, .int a0, .int x_53, .int a2, .int a3])), (h1, .inl (cI, 2520, .inl g0)), (h3, .inl (cI, 2520, .inl f_52))]) [0, 1, 2] rfl, hD.sub (ws' := [(h0, .inr (0, [.ref h1, .ref h2, .ref h3, .ref h4, .ref h5, .ref h6, .int a0, .int x_53, .int a2, .int a3])), (h1, .inl (cI, 2520, .inl g0)), (h3, .inl (cI, 2520, .inl f_52))]) [0, 1, 2] (by decide) rfl, hS, lv_sub hl [0, 1, 2, 3, 4] rfl, (rg_mono hx_54 (by decide) (by decide)), (rg_mono hx_53 (by decide) (by decide)), (show x_53.toInt ≤ x_54.toInt by have hg0 := hx_54; have hg1 := hx_53; simp only [rg] at hg0 hg1; omega)⟩ (by show ((2520) - x_54.toInt).toNat < ((2520) - x_27.toInt).toNat; have ha := h_44; simp only [rg] at ha; omega)
def v_s_X0_hasApart : List Cond := Cond.code yX0_hasApart cX0_hasApart 4 (some .boolean) :: ([Cond.fieldLink RX0 34 "MayRings$Families" "restCount" "I", Cond.fieldLink RX0 18 "MayRings$Families" "rest" "[I"] ++ (wsX00 ++ ([])))
theorem k_s_X0_hasApart : GoodIn lw_tbl v_s_X0_hasApart := gd_c (List.mem_of_getElem? (i := 1086) (by decide +kernel)) rfl (goodIn_app (gd_c (List.mem_of_getElem? (i := 507) (by decide +kernel)) rfl (gd_c (List.mem_of_getElem? (i := 502) (by decide +kernel)) rfl (gd_nil))) (goodIn_app kfX0 (gd_nil)))
set_option maxHeartbeats 2000000 in
set_option maxRecDepth 100000 in
theorem c_s_X0_hasApart (l : Launch) (dC : Nat → ClassId) (dI : Nat → Nat → Nat) (cB cI cJ cZ cP : ClassId) (h0 : Nat) (h1 : Nat) (h2 : Nat) (h3 : Nat) (g2 : Nat → Int32) (h4 : Nat) (h5 : Nat) (h6 : Nat) (a0 : Int32) (a1 : Int32) (ha1 : rg (0) (2520) a1) (a2 : Int32) (a3 : Int32) (p0 : Int32) (p1 : Int32) (hp1 : rg (0) (2520) p1) (sz : Nat) : Met l yX0_hasApart v_s_X0_hasApart ({ frames := 0, cells := 0, slots := 0, locals := 0 }) (va_Pc [.ref h0, .int p0, .int p1] (fun U => U.heap.size = sz ∧ va_P (dC, dI) vwCl [(h0, .inr (0, [.ref h1, .ref h2, .ref h3, .ref h4, .ref h5, .ref h6, .int a0, .int a1, .int a2, .int a3])), (h3, .inl (cI, 2520, .inl g2))] U.heap ∧ va_K (dC, dI) vwCl (ty5 cB cI cJ cZ cP) U ∧ va_D (fun _ => True) [(h0, .inr (0, [.ref h1, .ref h2, .ref h3, .ref h4, .ref h5, .ref h6, .int a0, .int a1, .int a2, .int a3])), (h3, .inl (cI, 2520, .inl g2))])) (va_Qi (fun (r : Int32) (u9 : Unit) => rg (0) (1) r) (fun u9 t => va_P (dC, dI) vwCl [(h0, .inr (0, [.ref h1, .ref h2, .ref h3, .ref h4, .ref h5, .ref h6, .int a0, .int a1, .int a2, .int a3])), (h3, .inl (cI, 2520, .inl g2))] t.heap ∧ va_D (va_A [(h0, .inr (0, [.ref h1, .ref h2, .ref h3, .ref h4, .ref h5, .ref h6, .int a0, .int a1, .int a2, .int a3])), (h3, .inl (cI, 2520, .inl g2))] sz) [(h0, .inr (0, [.ref h1, .ref h2, .ref h3, .ref h4, .ref h5, .ref h6, .int a0, .int a1, .int a2, .int a3])), (h3, .inl (cI, 2520, .inl g2))]) (va_A [(h0, .inr (0, [.ref h1, .ref h2, .ref h3, .ref h4, .ref h5, .ref h6, .int a0, .int a1, .int a2, .int a3])), (h3, .inl (cI, 2520, .inl g2))] sz)) 0 0 (va_A [(h0, .inr (0, [.ref h1, .ref h2, .ref h3, .ref h4, .ref h5, .ref h6, .int a0, .int a1, .int a2, .int a3])), (h3, .inl (cI, 2520, .inl g2))] sz) := by
  refine Met.ofW (cc := cX0_hasApart) (maxL := 4) (ret := (some .boolean)) (by decide) rfl ?_
  intro p e s m args below meth c s₁ B hml hv
  obtain ⟨rfl, hsz, hP, hK, hD0⟩ := hv
  have hx := B.exec
  have hb := B.bytes
  have hr := B.returns
  have hts := atoms_spec (ws := v_s_X0_hasApart) B.pre
  have hown : s.vm.findClass RX0 = some m.cls := findClass_of_methodNamed B.named
  have hlocks := B.notSynchronized
  have hinX0 : ∀ w ∈ wsX00, w ∈ v_s_X0_hasApart := fun _ h => List.mem_cons_of_mem _ (List.mem_append_right _ (List.mem_append_left _ h))
  subst hsz
  have hD := hD0.self (sz := s.heap.size)
  generalize hAe : va_A [(h0, .inr (0, [.ref h1, .ref h2, .ref h3, .ref h4, .ref h5, .ref h6, .int a0, .int a1, .int a2, .int a3])), (h3, .inl (cI, 2520, .inl g2))] s.heap.size = A at hD ⊢
  have hA : ∀ q : Nat, s.heap.size ≤ q → A q := fun q h => by rw [← hAe]; exact Or.inr h
  have hP : va_P (dC, dI) vwCl [(h0, .inr (0, [.ref h1, .ref h2, .ref h3, .ref h4, .ref h5, .ref h6, .int a0, .int a1, .int a2, .int a3])), (h3, .inl (cI, 2520, .inl g2))] s.heap := hP
  have hl := lv_entry ([.ref h0, .int p0, .int p1]) (n := 4) (Nat.le_of_ble_eq_true rfl)
  rw [lg_entry_eq]
  generalize (lg_sl ([.ref h0, .int p0, .int p1]) ++ List.replicate (4 - (lg_sl ([.ref h0, .int p0, .int p1])).length) Slot.unset).toArray = ls at hl ⊢
  have hl : lv_has ls 4 [(0, .ref h0), (1, .int p0), (2, .int p1)] := hl
  refine W_gen (A := A) hP (fun H locs hP hS => ?_)
  refine lv_iload_n hx hb dX0_hasApart_0 rfl (lv_at hl 2 rfl) ?_
  refine lv_istore_n (lv' := [(3, .int p1), (0, .ref h0), (1, .int p0), (2, .int p1)]) hx hb dX0_hasApart_1 rfl hl (by decide) rfl (fun ls hl => ?_)
  refine W_loopM (σ := Int32) (fun u H locs ls => va_P (dC, dI) vwCl [(h0, .inr (0, [.ref h1, .ref h2, .ref h3, .ref h4, .ref h5, .ref h6, .int a0, .int a1, .int a2, .int a3])), (h3, .inl (cI, 2520, .inl g2))] H ∧ va_D A [(h0, .inr (0, [.ref h1, .ref h2, .ref h3, .ref h4, .ref h5, .ref h6, .int a0, .int a1, .int a2, .int a3])), (h3, .inl (cI, 2520, .inl g2))] ∧ va_S A s.heap H locs ∧ lv_has ls 4 [(3, .int u), (0, .ref h0), (1, .int p0), (2, .int p1)] ∧ rg (0) (2520) u) (fun u => ((2520) - u.toInt).toNat) 2 [] ?_ (p1) H locs ls ⟨hP, hD, hS, hl, (rg_mono hp1 (by decide) (by decide))⟩
  rintro x_9 H locs ls ⟨hP, hD, hS, hl, hx_9⟩ ih_18
  replace hP : va_P (dC, dI) vwCl [(h0, .inr (0, [.ref h1, .ref h2, .ref h3, .ref h4, .ref h5, .ref h6, .int a0, .int a1, .int a2, .int a3])), (h3, .inl (cI, 2520, .inl g2))] H := hP
  replace hD : va_D A [(h0, .inr (0, [.ref h1, .ref h2, .ref h3, .ref h4, .ref h5, .ref h6, .int a0, .int a1, .int a2, .int a3])), (h3, .inl (cI, 2520, .inl g2))] := hD
  replace hl : lv_has ls 4 [(3, .int x_9), (0, .ref h0), (1, .int p0), (2, .int p1)] := hl
  replace hx_9 : rg (0) (2520) x_9 := hx_9
  refine lv_iload_n hx hb dX0_hasApart_2 rfl (lv_at hl 0 rfl) ?_
  refine lv_aload_n hx hb dX0_hasApart_3 rfl (lv_at hl 1 rfl) ?_
  refine va_get (D := (dC, dI)) (ci := 0) (v := .int a1) (C := RX0) (T := TX0) (N := 10) hx hb hts hinX0 hown hK hP 0 rfl rfl 7 (by decide) (hts (.fieldLink RX0 34 "MayRings$Families" "restCount" "I") (List.mem_of_getElem? (i := 1) rfl)) (fun _ h9 => h9) rfl dX0_hasApart_4 ?_
  refine lv_icmp_ge (tgt := 29) hx hb dX0_hasApart_7 (by decide) (fun c_19 => ?_) (fun c_19 => ?_)
  · skip
    refine lv_iconst (v := 0) hx hb dX0_hasApart_29 (by decide) ?_
    have hP9 := hP.sub (ws' := [(h0, .inr (0, [.ref h1, .ref h2, .ref h3, .ref h4, .ref h5, .ref h6, .int a0, .int a1, .int a2, .int a3])), (h3, .inl (cI, 2520, .inl g2))]) [0, 1] rfl
    have hD9 := hD.sub (ws' := [(h0, .inr (0, [.ref h1, .ref h2, .ref h3, .ref h4, .ref h5, .ref h6, .int a0, .int a1, .int a2, .int a3])), (h3, .inl (cI, 2520, .inl g2))]) [0, 1] (by decide) rfl
    exact W.zret (v := 0) hx hb hr (rfl) (fun t ht hW => ⟨⟨0, (), rfl, (rg_mono (rg_k (x := 0) (c := 0) (by decide)) (by decide) (by decide)), ⟨by rw [ht]; exact hP9, hD9⟩⟩, hS.F ht⟩) hS.2.2 dX0_hasApart_30
  · skip
    have h_20 : rg (0) (2519) x_9 := by have ha := hx_9; have hb_ := ha1; simp only [rg, fa_lt, fa_le, fa_eq] at ha hb_ c_19; simp only [rg]; omega
    have h_21 : rg (1) (2520) a1 := by have ha := hx_9; have hb_ := ha1; simp only [rg, fa_lt, fa_le, fa_eq] at ha hb_ c_19; simp only [rg]; omega
    refine lv_aload_n hx hb dX0_hasApart_10 rfl (lv_at hl 1 rfl) ?_
    refine va_get (D := (dC, dI)) (ci := 0) (v := .ref h3) (C := RX0) (T := TX0) (N := 10) hx hb hts hinX0 hown hK hP 0 rfl rfl 2 (by decide) (hts (.fieldLink RX0 18 "MayRings$Families" "rest" "[I") (List.mem_of_getElem? (i := 2) rfl)) (fun _ h9 => h9) rfl dX0_hasApart_11 ?_
    refine lv_iload_n hx hb dX0_hasApart_14 rfl (lv_at hl 0 rfl) ?_
    refine va_iald hx hb hK hP 1 1 rfl rfl (rg_in (n := 2520) (rg_mono h_20 (by decide) (by decide))) dX0_hasApart_15 ?_
    refine lv_topi (fun x_22 ex_22 => ?_)
    refine lv_iload_n hx hb dX0_hasApart_16 rfl (lv_at hl 2 rfl) ?_
    refine lv_iand hx hb dX0_hasApart_17 ?_
    refine lv_topi (fun x_23 ex_23 => ?_)
    refine lv_if_ne (tgt := 23) hx hb dX0_hasApart_18 (by decide) (fun c_24 => ?_) (fun c_24 => ?_)
    · skip
      obtain ⟨x_25, ex_25⟩ : ∃ y : Int32, y = x_9 + Int32.ofInt (1) := ⟨_, rfl⟩
      have hx_25 : rg (1) (2520) x_25 := by rw [ex_25]; exact rg_mono (rg_add h_20 (rg_k (x := Int32.ofInt (1)) (c := 1) (by decide)) (by decide) (by decide)) (by decide) (by decide)
      have qx_25 : x_25.toInt = x_9.toInt + (1) := by rw [ex_25]; exact rg_addE h_20 (rg_k (x := Int32.ofInt (1)) (c := 1) (by decide)) (by decide) (by decide) (by decide)
      refine lv_iinc (v := x_25) (lv' := [(3, .int x_25), (0, .ref h0), (1, .int p0), (2, .int p1)]) hx hb dX0_hasApart_23 hl (k := 0) rfl (ex_25.symm) (by decide) rfl (fun ls hl => ?_)
      clear ex_25
      refine lv_goto (tgt := 2) hx hb dX0_hasApart_26 (by decide) ?_
      exact ih_18 (x_25) H locs ls ⟨hP.sub (ws' := [(h0, .inr (0, [.ref h1, .ref h2, .ref h3, .ref h4, .ref h5, .ref h6, .int a0, .int a1, .int a2, .int a3])), (h3, .inl (cI, 2520, .inl g2))]) [0, 1] rfl, hD.sub (ws' := [(h0, .inr (0, [.ref h1, .ref h2, .ref h3, .ref h4, .ref h5, .ref h6, .int a0, .int a1, .int a2, .int a3])), (h3, .inl (cI, 2520, .inl g2))]) [0, 1] (by decide) rfl, hS, lv_sub hl [0, 1, 2, 3] rfl, (rg_mono hx_25 (by decide) (by decide))⟩ (by show ((2520) - x_25.toInt).toNat < ((2520) - x_9.toInt).toNat; have ha := h_20; simp only [rg] at ha; omega)
    · skip
      have h_26 : rg (0) (0) x_23 := by have ha := (rg_any x_23); have hb_ := (rg_k (x := 0) (c := 0) (by decide)); simp only [rg, fa_lt, fa_le, fa_eq, (by decide : (0 : Int32).toInt = 0)] at ha hb_ c_24; simp only [rg]; omega
      refine lv_iconst (v := 1) hx hb dX0_hasApart_21 (by decide) ?_
      have hP9 := hP.sub (ws' := [(h0, .inr (0, [.ref h1, .ref h2, .ref h3, .ref h4, .ref h5, .ref h6, .int a0, .int a1, .int a2, .int a3])), (h3, .inl (cI, 2520, .inl g2))]) [0, 1] rfl
      have hD9 := hD.sub (ws' := [(h0, .inr (0, [.ref h1, .ref h2, .ref h3, .ref h4, .ref h5, .ref h6, .int a0, .int a1, .int a2, .int a3])), (h3, .inl (cI, 2520, .inl g2))]) [0, 1] (by decide) rfl
      exact W.zret (v := 1) hx hb hr (rfl) (fun t ht hW => ⟨⟨1, (), rfl, (rg_mono (rg_k (x := 1) (c := 1) (by decide)) (by decide) (by decide)), ⟨by rw [ht]; exact hP9, hD9⟩⟩, hS.F ht⟩) hS.2.2 dX0_hasApart_22
def v_s_X0_winsWith : List Cond := Cond.code yX0_winsWith cX0_winsWith 3 (some .boolean) :: ([Cond.methodLink RX0 126 yX0_keepApart, Cond.instanceMethod yX0_keepApart, Cond.selects RX0 yX0_keepApart yX0_keepApart, Cond.initialized RX0, Cond.fieldLink RX0 34 "MayRings$Families" "restCount" "I", Cond.fieldLink RX0 18 "MayRings$Families" "rest" "[I", Cond.methodLink RX0 133 yX0_hasApart, Cond.instanceMethod yX0_hasApart, Cond.selects RX0 yX0_hasApart yX0_hasApart] ++ (wsX00 ++ (v_s_X0_keepApart ++ (v_s_X0_hasApart ++ ([])))))
theorem k_s_X0_winsWith : GoodIn lw_tbl v_s_X0_winsWith := gd_c (List.mem_of_getElem? (i := 1103) (by decide +kernel)) rfl (goodIn_app (gd_c (List.mem_of_getElem? (i := 1075) (by decide +kernel)) rfl (gd_c (List.mem_of_getElem? (i := 1077) (by decide +kernel)) rfl (gd_c (List.mem_of_getElem? (i := 61) (by decide +kernel)) rfl (gd_c (List.mem_of_getElem? (i := 143) (by decide +kernel)) rfl (gd_c (List.mem_of_getElem? (i := 507) (by decide +kernel)) rfl (gd_c (List.mem_of_getElem? (i := 502) (by decide +kernel)) rfl (gd_c (List.mem_of_getElem? (i := 1083) (by decide +kernel)) rfl (gd_c (List.mem_of_getElem? (i := 1085) (by decide +kernel)) rfl (gd_c (List.mem_of_getElem? (i := 63) (by decide +kernel)) rfl (gd_nil)))))))))) (goodIn_app kfX0 (goodIn_app k_s_X0_keepApart (goodIn_app k_s_X0_hasApart (gd_nil)))))
set_option maxHeartbeats 2000000 in
set_option maxRecDepth 100000 in
theorem c_s_X0_winsWith (l : Launch) (dC : Nat → ClassId) (dI : Nat → Nat → Nat) (cB cI cJ cZ cP : ClassId) (h0 : Nat) (h1 : Nat) (g0 : Nat → Int32) (h2 : Nat) (h3 : Nat) (g2 : Nat → Int32) (h4 : Nat) (h5 : Nat) (h6 : Nat) (a0 : Int32) (ha0 : rg (0) (2520) a0) (a1 : Int32) (a2 : Int32) (a3 : Int32) (p0 : Int32) (hp0 : rg (0) (2519) p0) (sz : Nat) : Met l yX0_winsWith v_s_X0_winsWith ({ frames := 1, cells := 0, slots := 0, locals := 24 }) (va_Pc [.ref h0, .int p0] (fun U => U.heap.size = sz ∧ va_P (dC, dI) vwCl [(h0, .inr (0, [.ref h1, .ref h2, .ref h3, .ref h4, .ref h5, .ref h6, .int a0, .int a1, .int a2, .int a3])), (h1, .inl (cI, 2520, .inl g0)), (h3, .inl (cI, 2520, .inl g2))] U.heap ∧ va_K (dC, dI) vwCl (ty5 cB cI cJ cZ cP) U ∧ va_D (fun _ => True) [(h0, .inr (0, [.ref h1, .ref h2, .ref h3, .ref h4, .ref h5, .ref h6, .int a0, .int a1, .int a2, .int a3])), (h1, .inl (cI, 2520, .inl g0)), (h3, .inl (cI, 2520, .inl g2))])) (va_Qi (fun (r : Int32) (u9 : Unit) => rg (0) (1) r) (fun u9 t => ∃ (z0 : Int32) (z1 : Nat → Int32), rg (0) (2520) z0 ∧ va_P (dC, dI) vwCl [(h0, .inr (0, [.ref h1, .ref h2, .ref h3, .ref h4, .ref h5, .ref h6, .int a0, .int z0, .int a2, .int a3])), (h1, .inl (cI, 2520, .inl g0)), (h3, .inl (cI, 2520, .inl z1))] t.heap ∧ va_D (va_A [(h0, .inr (0, [.ref h1, .ref h2, .ref h3, .ref h4, .ref h5, .ref h6, .int a0, .int a1, .int a2, .int a3])), (h1, .inl (cI, 2520, .inl g0)), (h3, .inl (cI, 2520, .inl g2))] sz) [(h0, .inr (0, [.ref h1, .ref h2, .ref h3, .ref h4, .ref h5, .ref h6, .int a0, .int z0, .int a2, .int a3])), (h1, .inl (cI, 2520, .inl g0)), (h3, .inl (cI, 2520, .inl z1))]) (va_A [(h0, .inr (0, [.ref h1, .ref h2, .ref h3, .ref h4, .ref h5, .ref h6, .int a0, .int a1, .int a2, .int a3])), (h1, .inl (cI, 2520, .inl g0)), (h3, .inl (cI, 2520, .inl g2))] sz)) 0 0 (va_A [(h0, .inr (0, [.ref h1, .ref h2, .ref h3, .ref h4, .ref h5, .ref h6, .int a0, .int a1, .int a2, .int a3])), (h1, .inl (cI, 2520, .inl g0)), (h3, .inl (cI, 2520, .inl g2))] sz) := by
  refine Met.ofW (cc := cX0_winsWith) (maxL := 3) (ret := (some .boolean)) (by decide) rfl ?_
  intro p e s m args below meth c s₁ B hml hv
  obtain ⟨rfl, hsz, hP, hK, hD0⟩ := hv
  have hx := B.exec
  have hb := B.bytes
  have hr := B.returns
  have hts := atoms_spec (ws := v_s_X0_winsWith) B.pre
  have hown : s.vm.findClass RX0 = some m.cls := findClass_of_methodNamed B.named
  have hlocks := B.notSynchronized
  have hinX0 : ∀ w ∈ wsX00, w ∈ v_s_X0_winsWith := fun _ h => List.mem_cons_of_mem _ (List.mem_append_right _ (List.mem_append_left _ h))
  subst hsz
  have hD := hD0.self (sz := s.heap.size)
  generalize hAe : va_A [(h0, .inr (0, [.ref h1, .ref h2, .ref h3, .ref h4, .ref h5, .ref h6, .int a0, .int a1, .int a2, .int a3])), (h1, .inl (cI, 2520, .inl g0)), (h3, .inl (cI, 2520, .inl g2))] s.heap.size = A at hD ⊢
  have hA : ∀ q : Nat, s.heap.size ≤ q → A q := fun q h => by rw [← hAe]; exact Or.inr h
  have hP : va_P (dC, dI) vwCl [(h0, .inr (0, [.ref h1, .ref h2, .ref h3, .ref h4, .ref h5, .ref h6, .int a0, .int a1, .int a2, .int a3])), (h1, .inl (cI, 2520, .inl g0)), (h3, .inl (cI, 2520, .inl g2))] s.heap := hP
  have hl := lv_entry ([.ref h0, .int p0]) (n := 3) (Nat.le_of_ble_eq_true rfl)
  rw [lg_entry_eq]
  generalize (lg_sl ([.ref h0, .int p0]) ++ List.replicate (3 - (lg_sl ([.ref h0, .int p0])).length) Slot.unset).toArray = ls at hl ⊢
  have hl : lv_has ls 3 [(0, .ref h0), (1, .int p0)] := hl
  refine W_gen (A := A) hP (fun H locs hP hS => ?_)
  refine lv_aload_n hx hb dX0_winsWith_0 rfl (lv_at hl 0 rfl) ?_
  refine lv_iload_n hx hb dX0_winsWith_1 rfl (lv_at hl 1 rfl) ?_
  refine lv_iconst (v := 0) hx hb dX0_winsWith_2 (by decide) ?_
  have hPc := hP.sub (ws' := [(h0, .inr (0, [.ref h1, .ref h2, .ref h3, .ref h4, .ref h5, .ref h6, .int a0, .int a1, .int a2, .int a3])), (h1, .inl (cI, 2520, .inl g0)), (h3, .inl (cI, 2520, .inl g2))]) [0, 1, 2] rfl
  have hDc := hD.sub (ws' := [(h0, .inr (0, [.ref h1, .ref h2, .ref h3, .ref h4, .ref h5, .ref h6, .int a0, .int a1, .int a2, .int a3])), (h1, .inl (cI, 2520, .inl g0)), (h3, .inl (cI, 2520, .inl g2))]) [0, 1, 2] (by decide) rfl
  have hFc := va_free (wc := [(h0, .inr (0, [.ref h1, .ref h2, .ref h3, .ref h4, .ref h5, .ref h6, .int a0, .int a1, .int a2, .int a3])), (h1, .inl (cI, 2520, .inl g0)), (h3, .inl (cI, 2520, .inl g2))]) hD hS hA [0, 1, 2] rfl
  refine va_callv (va_runV (As := [.int p0, .int 0]) (rest := []) ⟨hx, hb, hml, hown, hts⟩ (c_s_X0_keepApart l dC dI cB cI cJ cZ cP h0 h1 g0 h2 h3 g2 h4 h5 h6 a0 (rg_mono ha0 (by decide) (by decide)) a1 a2 a3 p0 (rg_mono hp0 (by decide) (by decide)) 0 (rg_mono (rg_k (x := 0) (c := 0) (by decide)) (by decide) (by decide)) H.size) (cwV 2 hts (gd_V (List.mem_of_getElem? (i := 1) rfl) (List.mem_of_getElem? (i := 2) rfl) (List.mem_of_getElem? (i := 3) rfl) (List.mem_of_getElem? (i := 4) rfl) (gd_mono k_s_X0_keepApart (fun _ h => List.mem_cons_of_mem _ (List.mem_append_right _ (List.mem_append_right _ (List.mem_append_left _ h)))))) rfl rfl rfl (by decide +kernel) ⟨Nat.le_of_ble_eq_true rfl, Nat.le_of_ble_eq_true rfl⟩) ⟨fun a U g mk q => by obtain ⟨q0, q1, qP, qK, qD⟩ := q; exact ⟨q0, q1, qP, va_K.moved (u := U) (U := U.calling g mk a) (Vm.Alike.refl U.vm) qK, qD⟩, va_recv hK hPc (ci := 0) (q0 := 0) rfl rfl, fun U hU hW => ⟨rfl, by rw [hU], by rw [hU]; exact hPc, va_K.moved hW.alike hK, hDc.weaken (fun _ _ _ _ => trivial)⟩⟩ rfl rfl hl.1 rfl (lv_room (Nat.le_of_ble_eq_true rfl)) dX0_winsWith_3 ⟨Nat.le_of_ble_eq_true rfl, Nat.le_of_ble_eq_true rfl⟩) hS (fun q _ h => hFc q h) hFc (fun u t H1 locs ht hvm hw hB hz1 hk1 hS => ?_)
  obtain ⟨x_2, f_3, hx_2, hP1, hD1⟩ := hB
  rw [ht] at hP1
  obtain ⟨hP, hD⟩ := va_join (wr := []) (w1 := [(h0, .inr (0, [.ref h1, .ref h2, .ref h3, .ref h4, .ref h5, .ref h6, .int a0, .int x_2, .int a2, .int a3])), (h1, .inl (cI, 2520, .inl g0)), (h3, .inl (cI, 2520, .inl f_3))]) hP hD [0, 1, 2] [] rfl rfl (by decide) (by decide) hk1 hFc hP1 hD1
  generalize H1 = H at hP hS ⊢
  replace hP : va_P (dC, dI) vwCl [(h0, .inr (0, [.ref h1, .ref h2, .ref h3, .ref h4, .ref h5, .ref h6, .int a0, .int x_2, .int a2, .int a3])), (h1, .inl (cI, 2520, .inl g0)), (h3, .inl (cI, 2520, .inl f_3))] H := hP
  replace hD : va_D A [(h0, .inr (0, [.ref h1, .ref h2, .ref h3, .ref h4, .ref h5, .ref h6, .int a0, .int x_2, .int a2, .int a3])), (h1, .inl (cI, 2520, .inl g0)), (h3, .inl (cI, 2520, .inl f_3))] := hD
  refine lv_iconst (v := 0) hx hb dX0_winsWith_6 (by decide) ?_
  refine lv_istore_n (lv' := [(2, .int 0), (0, .ref h0), (1, .int p0)]) hx hb dX0_winsWith_7 rfl hl (by decide) rfl (fun ls hl => ?_)
  refine W_loopM (σ := Int32) (fun u H locs ls => va_P (dC, dI) vwCl [(h0, .inr (0, [.ref h1, .ref h2, .ref h3, .ref h4, .ref h5, .ref h6, .int a0, .int x_2, .int a2, .int a3])), (h1, .inl (cI, 2520, .inl g0)), (h3, .inl (cI, 2520, .inl f_3))] H ∧ va_D A [(h0, .inr (0, [.ref h1, .ref h2, .ref h3, .ref h4, .ref h5, .ref h6, .int a0, .int x_2, .int a2, .int a3])), (h1, .inl (cI, 2520, .inl g0)), (h3, .inl (cI, 2520, .inl f_3))] ∧ va_S A s.heap H locs ∧ lv_has ls 3 [(2, .int u), (0, .ref h0), (1, .int p0)] ∧ rg (0) (2520) u) (fun u => ((2520) - u.toInt).toNat) 8 [] ?_ (0) H locs ls ⟨hP, hD, hS, hl, (rg_mono (rg_k (x := 0) (c := 0) (by decide)) (by decide) (by decide))⟩
  rintro x_412 H locs ls ⟨hP, hD, hS, hl, hx_412⟩ ih_422
  replace hP : va_P (dC, dI) vwCl [(h0, .inr (0, [.ref h1, .ref h2, .ref h3, .ref h4, .ref h5, .ref h6, .int a0, .int x_2, .int a2, .int a3])), (h1, .inl (cI, 2520, .inl g0)), (h3, .inl (cI, 2520, .inl f_3))] H := hP
  replace hD : va_D A [(h0, .inr (0, [.ref h1, .ref h2, .ref h3, .ref h4, .ref h5, .ref h6, .int a0, .int x_2, .int a2, .int a3])), (h1, .inl (cI, 2520, .inl g0)), (h3, .inl (cI, 2520, .inl f_3))] := hD
  replace hl : lv_has ls 3 [(2, .int x_412), (0, .ref h0), (1, .int p0)] := hl
  replace hx_412 : rg (0) (2520) x_412 := hx_412
  refine lv_iload_n hx hb dX0_winsWith_8 rfl (lv_at hl 0 rfl) ?_
  refine lv_aload_n hx hb dX0_winsWith_9 rfl (lv_at hl 1 rfl) ?_
  refine va_get (D := (dC, dI)) (ci := 0) (v := .int x_2) (C := RX0) (T := TX0) (N := 10) hx hb hts hinX0 hown hK hP 0 rfl rfl 7 (by decide) (hts (.fieldLink RX0 34 "MayRings$Families" "restCount" "I") (List.mem_of_getElem? (i := 5) rfl)) (fun _ h9 => h9) rfl dX0_winsWith_10 ?_
  refine lv_icmp_ge (tgt := 38) hx hb dX0_winsWith_13 (by decide) (fun c_423 => ?_) (fun c_423 => ?_)
  · skip
    refine lv_iconst (v := 1) hx hb dX0_winsWith_38 (by decide) ?_
    have hP9 := hP.sub (ws' := [(h0, .inr (0, [.ref h1, .ref h2, .ref h3, .ref h4, .ref h5, .ref h6, .int a0, .int x_2, .int a2, .int a3])), (h1, .inl (cI, 2520, .inl g0)), (h3, .inl (cI, 2520, .inl f_3))]) [0, 1, 2] rfl
    have hD9 := hD.sub (ws' := [(h0, .inr (0, [.ref h1, .ref h2, .ref h3, .ref h4, .ref h5, .ref h6, .int a0, .int x_2, .int a2, .int a3])), (h1, .inl (cI, 2520, .inl g0)), (h3, .inl (cI, 2520, .inl f_3))]) [0, 1, 2] (by decide) rfl
    exact W.zret (v := 1) hx hb hr (rfl) (fun t ht hW => ⟨⟨1, (), rfl, (rg_mono (rg_k (x := 1) (c := 1) (by decide)) (by decide) (by decide)), ⟨x_2, f_3, (rg_mono hx_2 (by decide) (by decide)), by rw [ht]; exact hP9, hD9⟩⟩, hS.F ht⟩) hS.2.2 dX0_winsWith_39
  · skip
    have h_424 : rg (0) (2519) x_412 := by have ha := hx_412; have hb_ := hx_2; simp only [rg, fa_lt, fa_le, fa_eq] at ha hb_ c_423; simp only [rg]; omega
    have h_425 : rg (1) (2520) x_2 := by have ha := hx_412; have hb_ := hx_2; simp only [rg, fa_lt, fa_le, fa_eq] at ha hb_ c_423; simp only [rg]; omega
    refine lv_aload_n hx hb dX0_winsWith_16 rfl (lv_at hl 1 rfl) ?_
    refine lv_aload_n hx hb dX0_winsWith_17 rfl (lv_at hl 1 rfl) ?_
    refine va_get (D := (dC, dI)) (ci := 0) (v := .ref h3) (C := RX0) (T := TX0) (N := 10) hx hb hts hinX0 hown hK hP 0 rfl rfl 2 (by decide) (hts (.fieldLink RX0 18 "MayRings$Families" "rest" "[I") (List.mem_of_getElem? (i := 6) rfl)) (fun _ h9 => h9) rfl dX0_winsWith_18 ?_
    refine lv_iload_n hx hb dX0_winsWith_21 rfl (lv_at hl 0 rfl) ?_
    refine va_iald hx hb hK hP 2 1 rfl rfl (rg_in (n := 2520) (rg_mono h_424 (by decide) (by decide))) dX0_winsWith_22 ?_
    refine lv_topi (fun x_426 ex_426 => ?_)
    refine lv_iconst (v := 0) hx hb dX0_winsWith_23 (by decide) ?_
    have hPc := hP.sub (ws' := [(h0, .inr (0, [.ref h1, .ref h2, .ref h3, .ref h4, .ref h5, .ref h6, .int a0, .int x_2, .int a2, .int a3])), (h3, .inl (cI, 2520, .inl f_3))]) [0, 2] rfl
    have hDc := hD.sub (ws' := [(h0, .inr (0, [.ref h1, .ref h2, .ref h3, .ref h4, .ref h5, .ref h6, .int a0, .int x_2, .int a2, .int a3])), (h3, .inl (cI, 2520, .inl f_3))]) [0, 2] (by decide) rfl
    have hFc := va_free (wc := [(h0, .inr (0, [.ref h1, .ref h2, .ref h3, .ref h4, .ref h5, .ref h6, .int a0, .int x_2, .int a2, .int a3])), (h3, .inl (cI, 2520, .inl f_3))]) hD hS hA [0, 2] rfl
    refine va_calli (va_runV (As := [.int x_426, .int 0]) (rest := []) ⟨hx, hb, hml, hown, hts⟩ (c_s_X0_hasApart l dC dI cB cI cJ cZ cP h0 h1 h2 h3 f_3 h4 h5 h6 a0 x_2 (rg_mono h_425 (by decide) (by decide)) a2 a3 x_426 0 (rg_mono (rg_k (x := 0) (c := 0) (by decide)) (by decide) (by decide)) H.size) (cwV 2 hts (gd_V (List.mem_of_getElem? (i := 7) rfl) (List.mem_of_getElem? (i := 8) rfl) (List.mem_of_getElem? (i := 9) rfl) (List.mem_of_getElem? (i := 4) rfl) (gd_mono k_s_X0_hasApart (fun _ h => List.mem_cons_of_mem _ (List.mem_append_right _ (List.mem_append_right _ (List.mem_append_right _ (List.mem_append_left _ h))))))) rfl rfl rfl (by decide +kernel) ⟨Nat.le_of_ble_eq_true rfl, Nat.le_of_ble_eq_true rfl⟩) ⟨fun a U g mk q => by obtain ⟨q0, q1, qP, qK, qD⟩ := q; exact ⟨q0, q1, qP, va_K.moved (u := U) (U := U.calling g mk a) (Vm.Alike.refl U.vm) qK, qD⟩, va_recv hK hPc (ci := 0) (q0 := 0) rfl rfl, fun U hU hW => ⟨rfl, by rw [hU], by rw [hU]; exact hPc, va_K.moved hW.alike hK, hDc.weaken (fun _ _ _ _ => trivial)⟩⟩ rfl rfl hl.1 rfl (lv_room (Nat.le_of_ble_eq_true rfl)) dX0_winsWith_24 ⟨Nat.le_of_ble_eq_true rfl, Nat.le_of_ble_eq_true rfl⟩) hS (fun q _ h => hFc q h) hFc (fun r_427 u t H1 locs ht hvm hw hB hz1 hk1 hS => ?_)
    obtain ⟨hP1, hD1⟩ := hB
    rw [ht] at hP1
    obtain ⟨hP, hD⟩ := va_join (wr := [(h1, .inl (cI, 2520, .inl g0))]) (w1 := [(h0, .inr (0, [.ref h1, .ref h2, .ref h3, .ref h4, .ref h5, .ref h6, .int a0, .int x_2, .int a2, .int a3])), (h3, .inl (cI, 2520, .inl f_3))]) hP hD [0, 2] [1] rfl rfl (by decide) (by decide) hk1 hFc hP1 hD1
    generalize H1 = H at hP hS ⊢
    replace hP : va_P (dC, dI) vwCl [(h1, .inl (cI, 2520, .inl g0)), (h0, .inr (0, [.ref h1, .ref h2, .ref h3, .ref h4, .ref h5, .ref h6, .int a0, .int x_2, .int a2, .int a3])), (h3, .inl (cI, 2520, .inl f_3))] H := hP
    replace hD : va_D A [(h1, .inl (cI, 2520, .inl g0)), (h0, .inr (0, [.ref h1, .ref h2, .ref h3, .ref h4, .ref h5, .ref h6, .int a0, .int x_2, .int a2, .int a3])), (h3, .inl (cI, 2520, .inl f_3))] := hD
    have hr_427 : rg (0) (1) r_427 := hw
    refine lv_if_ne (tgt := 32) hx hb dX0_winsWith_27 (by decide) (fun c_428 => ?_) (fun c_428 => ?_)
    · skip
      have h_429 : rg (1) (1) r_427 := by have ha := hr_427; have hb_ := (rg_k (x := 0) (c := 0) (by decide)); simp only [rg, fa_lt, fa_le, fa_eq, (by decide : (0 : Int32).toInt = 0)] at ha hb_ c_428; simp only [rg]; omega
      obtain ⟨x_430, ex_430⟩ : ∃ y : Int32, y = x_412 + Int32.ofInt (1) := ⟨_, rfl⟩
      have hx_430 : rg (1) (2520) x_430 := by rw [ex_430]; exact rg_mono (rg_add h_424 (rg_k (x := Int32.ofInt (1)) (c := 1) (by decide)) (by decide) (by decide)) (by decide) (by decide)
      have qx_430 : x_430.toInt = x_412.toInt + (1) := by rw [ex_430]; exact rg_addE h_424 (rg_k (x := Int32.ofInt (1)) (c := 1) (by decide)) (by decide) (by decide) (by decide)
      refine lv_iinc (v := x_430) (lv' := [(2, .int x_430), (0, .ref h0), (1, .int p0)]) hx hb dX0_winsWith_32 hl (k := 0) rfl (ex_430.symm) (by decide) rfl (fun ls hl => ?_)
      clear ex_430
      refine lv_goto (tgt := 8) hx hb dX0_winsWith_35 (by decide) ?_
      exact ih_422 (x_430) H locs ls ⟨hP.sub (ws' := [(h0, .inr (0, [.ref h1, .ref h2, .ref h3, .ref h4, .ref h5, .ref h6, .int a0, .int x_2, .int a2, .int a3])), (h1, .inl (cI, 2520, .inl g0)), (h3, .inl (cI, 2520, .inl f_3))]) [1, 0, 2] rfl, hD.sub (ws' := [(h0, .inr (0, [.ref h1, .ref h2, .ref h3, .ref h4, .ref h5, .ref h6, .int a0, .int x_2, .int a2, .int a3])), (h1, .inl (cI, 2520, .inl g0)), (h3, .inl (cI, 2520, .inl f_3))]) [1, 0, 2] (by decide) rfl, hS, lv_sub hl [0, 1, 2] rfl, (rg_mono hx_430 (by decide) (by decide))⟩ (by show ((2520) - x_430.toInt).toNat < ((2520) - x_412.toInt).toNat; have ha := h_424; simp only [rg] at ha; omega)
    · skip
      have h_431 : rg (0) (0) r_427 := by have ha := hr_427; have hb_ := (rg_k (x := 0) (c := 0) (by decide)); simp only [rg, fa_lt, fa_le, fa_eq, (by decide : (0 : Int32).toInt = 0)] at ha hb_ c_428; simp only [rg]; omega
      refine lv_iconst (v := 0) hx hb dX0_winsWith_30 (by decide) ?_
      have hP9 := hP.sub (ws' := [(h0, .inr (0, [.ref h1, .ref h2, .ref h3, .ref h4, .ref h5, .ref h6, .int a0, .int x_2, .int a2, .int a3])), (h1, .inl (cI, 2520, .inl g0)), (h3, .inl (cI, 2520, .inl f_3))]) [1, 0, 2] rfl
      have hD9 := hD.sub (ws' := [(h0, .inr (0, [.ref h1, .ref h2, .ref h3, .ref h4, .ref h5, .ref h6, .int a0, .int x_2, .int a2, .int a3])), (h1, .inl (cI, 2520, .inl g0)), (h3, .inl (cI, 2520, .inl f_3))]) [1, 0, 2] (by decide) rfl
      exact W.zret (v := 0) hx hb hr (rfl) (fun t ht hW => ⟨⟨0, (), rfl, (rg_mono (rg_k (x := 0) (c := 0) (by decide)) (by decide) (by decide)), ⟨x_2, f_3, (rg_mono h_425 (by decide) (by decide)), by rw [ht]; exact hP9, hD9⟩⟩, hS.F ht⟩) hS.2.2 dX0_winsWith_31
def v_s_X0_beginnerWins : List Cond := Cond.code yX0_beginnerWins cX0_beginnerWins 2 (some .boolean) :: ([Cond.fieldLink RX0 37 "MayRings$Families" "size" "I", Cond.fieldLink RX0 30 "MayRings$Families" "count" "I", Cond.fieldLink RX0 15 "MayRings$Families" "orders" "[I", Cond.methodLink RX0 118 yX0_mayLead, Cond.instanceMethod yX0_mayLead, Cond.selects RX0 yX0_mayLead yX0_mayLead, Cond.initialized RX0, Cond.methodLink RX0 136 yX0_winsWith, Cond.instanceMethod yX0_winsWith, Cond.selects RX0 yX0_winsWith yX0_winsWith] ++ (wsX00 ++ (v_s_X0_mayLead ++ (v_s_X0_winsWith ++ ([])))))
theorem k_s_X0_beginnerWins : GoodIn lw_tbl v_s_X0_beginnerWins := gd_c (List.mem_of_getElem? (i := 1099) (by decide +kernel)) rfl (goodIn_app (gd_c (List.mem_of_getElem? (i := 508) (by decide +kernel)) rfl (gd_c (List.mem_of_getElem? (i := 506) (by decide +kernel)) rfl (gd_c (List.mem_of_getElem? (i := 501) (by decide +kernel)) rfl (gd_c (List.mem_of_getElem? (i := 1067) (by decide +kernel)) rfl (gd_c (List.mem_of_getElem? (i := 1069) (by decide +kernel)) rfl (gd_c (List.mem_of_getElem? (i := 59) (by decide +kernel)) rfl (gd_c (List.mem_of_getElem? (i := 143) (by decide +kernel)) rfl (gd_c (List.mem_of_getElem? (i := 1100) (by decide +kernel)) rfl (gd_c (List.mem_of_getElem? (i := 1102) (by decide +kernel)) rfl (gd_c (List.mem_of_getElem? (i := 65) (by decide +kernel)) rfl (gd_nil))))))))))) (goodIn_app kfX0 (goodIn_app k_s_X0_mayLead (goodIn_app k_s_X0_winsWith (gd_nil)))))
set_option maxHeartbeats 2000000 in
set_option maxRecDepth 100000 in
theorem c_s_X0_beginnerWins (l : Launch) (dC : Nat → ClassId) (dI : Nat → Nat → Nat) (cB cI cJ cZ cP : ClassId) (h0 : Nat) (h1 : Nat) (g0 : Nat → Int32) (h2 : Nat) (g1 : Nat → Int32) (h3 : Nat) (g2 : Nat → Int32) (h4 : Nat) (h5 : Nat) (h6 : Nat) (g5 : Nat → Int32) (a0 : Int32) (ha0 : rg (0) (2520) a0) (a1 : Int32) (ha1 : rg (0) (2520) a1) (a2 : Int32) (ha2 : rg (0) (9) a2) (a3 : Int32) (sz : Nat) : Met l yX0_beginnerWins v_s_X0_beginnerWins ({ frames := 2, cells := 0, slots := 0, locals := 46 }) (va_Pc [.ref h0] (fun U => U.heap.size = sz ∧ va_P (dC, dI) vwCl [(h0, .inr (0, [.ref h1, .ref h2, .ref h3, .ref h4, .ref h5, .ref h6, .int a0, .int a1, .int a2, .int a3])), (h1, .inl (cI, 2520, .inl g0)), (h2, .inl (cI, 2520, .inl g1)), (h3, .inl (cI, 2520, .inl g2)), (h6, .inl (cI, 9, .inl g5))] U.heap ∧ va_K (dC, dI) vwCl (ty5 cB cI cJ cZ cP) U ∧ va_D (fun _ => True) [(h0, .inr (0, [.ref h1, .ref h2, .ref h3, .ref h4, .ref h5, .ref h6, .int a0, .int a1, .int a2, .int a3])), (h1, .inl (cI, 2520, .inl g0)), (h2, .inl (cI, 2520, .inl g1)), (h3, .inl (cI, 2520, .inl g2)), (h6, .inl (cI, 9, .inl g5))])) (va_Qi (fun (r : Int32) (u9 : Unit) => rg (0) (1) r) (fun u9 t => ∃ (z0 : Int32) (z1 : Nat → Int32), rg (0) (2520) z0 ∧ va_P (dC, dI) vwCl [(h0, .inr (0, [.ref h1, .ref h2, .ref h3, .ref h4, .ref h5, .ref h6, .int a0, .int z0, .int a2, .int a3])), (h1, .inl (cI, 2520, .inl g0)), (h2, .inl (cI, 2520, .inl g1)), (h3, .inl (cI, 2520, .inl z1)), (h6, .inl (cI, 9, .inl g5))] t.heap ∧ va_D (va_A [(h0, .inr (0, [.ref h1, .ref h2, .ref h3, .ref h4, .ref h5, .ref h6, .int a0, .int a1, .int a2, .int a3])), (h1, .inl (cI, 2520, .inl g0)), (h2, .inl (cI, 2520, .inl g1)), (h3, .inl (cI, 2520, .inl g2)), (h6, .inl (cI, 9, .inl g5))] sz) [(h0, .inr (0, [.ref h1, .ref h2, .ref h3, .ref h4, .ref h5, .ref h6, .int a0, .int z0, .int a2, .int a3])), (h1, .inl (cI, 2520, .inl g0)), (h2, .inl (cI, 2520, .inl g1)), (h3, .inl (cI, 2520, .inl z1)), (h6, .inl (cI, 9, .inl g5))]) (va_A [(h0, .inr (0, [.ref h1, .ref h2, .ref h3, .ref h4, .ref h5, .ref h6, .int a0, .int a1, .int a2, .int a3])), (h1, .inl (cI, 2520, .inl g0)), (h2, .inl (cI, 2520, .inl g1)), (h3, .inl (cI, 2520, .inl g2)), (h6, .inl (cI, 9, .inl g5))] sz)) 0 0 (va_A [(h0, .inr (0, [.ref h1, .ref h2, .ref h3, .ref h4, .ref h5, .ref h6, .int a0, .int a1, .int a2, .int a3])), (h1, .inl (cI, 2520, .inl g0)), (h2, .inl (cI, 2520, .inl g1)), (h3, .inl (cI, 2520, .inl g2)), (h6, .inl (cI, 9, .inl g5))] sz) := by
  refine Met.ofW (cc := cX0_beginnerWins) (maxL := 2) (ret := (some .boolean)) (by decide) rfl ?_
  intro p e s m args below meth c s₁ B hml hv
  obtain ⟨rfl, hsz, hP, hK, hD0⟩ := hv
  have hx := B.exec
  have hb := B.bytes
  have hr := B.returns
  have hts := atoms_spec (ws := v_s_X0_beginnerWins) B.pre
  have hown : s.vm.findClass RX0 = some m.cls := findClass_of_methodNamed B.named
  have hlocks := B.notSynchronized
  have hinX0 : ∀ w ∈ wsX00, w ∈ v_s_X0_beginnerWins := fun _ h => List.mem_cons_of_mem _ (List.mem_append_right _ (List.mem_append_left _ h))
  subst hsz
  have hD := hD0.self (sz := s.heap.size)
  generalize hAe : va_A [(h0, .inr (0, [.ref h1, .ref h2, .ref h3, .ref h4, .ref h5, .ref h6, .int a0, .int a1, .int a2, .int a3])), (h1, .inl (cI, 2520, .inl g0)), (h2, .inl (cI, 2520, .inl g1)), (h3, .inl (cI, 2520, .inl g2)), (h6, .inl (cI, 9, .inl g5))] s.heap.size = A at hD ⊢
  have hA : ∀ q : Nat, s.heap.size ≤ q → A q := fun q h => by rw [← hAe]; exact Or.inr h
  have hP : va_P (dC, dI) vwCl [(h0, .inr (0, [.ref h1, .ref h2, .ref h3, .ref h4, .ref h5, .ref h6, .int a0, .int a1, .int a2, .int a3])), (h1, .inl (cI, 2520, .inl g0)), (h2, .inl (cI, 2520, .inl g1)), (h3, .inl (cI, 2520, .inl g2)), (h6, .inl (cI, 9, .inl g5))] s.heap := hP
  have hl := lv_entry ([.ref h0]) (n := 2) (Nat.le_of_ble_eq_true rfl)
  rw [lg_entry_eq]
  generalize (lg_sl ([.ref h0]) ++ List.replicate (2 - (lg_sl ([.ref h0])).length) Slot.unset).toArray = ls at hl ⊢
  have hl : lv_has ls 2 [(0, .ref h0)] := hl
  refine W_gen (A := A) hP (fun H locs hP hS => ?_)
  refine lv_aload_n hx hb dX0_beginnerWins_0 rfl (lv_at hl 0 rfl) ?_
  refine va_get (D := (dC, dI)) (ci := 0) (v := .int a2) (C := RX0) (T := TX0) (N := 10) hx hb hts hinX0 hown hK hP 0 rfl rfl 8 (by decide) (hts (.fieldLink RX0 37 "MayRings$Families" "size" "I") (List.mem_of_getElem? (i := 1) rfl)) (fun _ h9 => h9) rfl dX0_beginnerWins_1 ?_
  refine lv_iconst (v := 2) hx hb dX0_beginnerWins_4 (by decide) ?_
  refine lv_icmp_ge (tgt := 21) hx hb dX0_beginnerWins_5 (by decide) (fun c_1 => ?_) (fun c_1 => ?_)
  · skip
    have h_2 : rg (2) (9) a2 := by have ha := ha2; have hb_ := (rg_k (x := 2) (c := 2) (by decide)); simp only [rg, fa_lt, fa_le, fa_eq, (by decide : (2 : Int32).toInt = 2)] at ha hb_ c_1; simp only [rg]; omega
    refine lv_iconst (v := 0) hx hb dX0_beginnerWins_21 (by decide) ?_
    refine lv_istore_n (lv' := [(1, .int 0), (0, .ref h0)]) hx hb dX0_beginnerWins_22 rfl hl (by decide) rfl (fun ls hl => ?_)
    refine W_loopM (σ := Int32 × (Nat → Int32) × Int32) (fun u H locs ls => va_P (dC, dI) vwCl [(h0, .inr (0, [.ref h1, .ref h2, .ref h3, .ref h4, .ref h5, .ref h6, .int a0, .int u.2.2, .int a2, .int a3])), (h1, .inl (cI, 2520, .inl g0)), (h2, .inl (cI, 2520, .inl g1)), (h3, .inl (cI, 2520, .inl u.2.1)), (h6, .inl (cI, 9, .inl g5))] H ∧ va_D A [(h0, .inr (0, [.ref h1, .ref h2, .ref h3, .ref h4, .ref h5, .ref h6, .int a0, .int u.2.2, .int a2, .int a3])), (h1, .inl (cI, 2520, .inl g0)), (h2, .inl (cI, 2520, .inl g1)), (h3, .inl (cI, 2520, .inl u.2.1)), (h6, .inl (cI, 9, .inl g5))] ∧ va_S A s.heap H locs ∧ lv_has ls 2 [(1, .int u.1), (0, .ref h0)] ∧ rg (0) (2520) u.1 ∧ rg (0) (2520) u.2.2) (fun u => ((2520) - u.1.toInt).toNat) 23 [] ?_ (0, g2, a1) H locs ls ⟨hP, hD, hS, hl, (rg_mono (rg_k (x := 0) (c := 0) (by decide)) (by decide) (by decide)), (rg_mono ha1 (by decide) (by decide))⟩
    rintro ⟨x_777, f_778, x_779⟩ H locs ls ⟨hP, hD, hS, hl, hx_777, hx_779⟩ ih_796
    replace hP : va_P (dC, dI) vwCl [(h0, .inr (0, [.ref h1, .ref h2, .ref h3, .ref h4, .ref h5, .ref h6, .int a0, .int x_779, .int a2, .int a3])), (h1, .inl (cI, 2520, .inl g0)), (h2, .inl (cI, 2520, .inl g1)), (h3, .inl (cI, 2520, .inl f_778)), (h6, .inl (cI, 9, .inl g5))] H := hP
    replace hD : va_D A [(h0, .inr (0, [.ref h1, .ref h2, .ref h3, .ref h4, .ref h5, .ref h6, .int a0, .int x_779, .int a2, .int a3])), (h1, .inl (cI, 2520, .inl g0)), (h2, .inl (cI, 2520, .inl g1)), (h3, .inl (cI, 2520, .inl f_778)), (h6, .inl (cI, 9, .inl g5))] := hD
    replace hl : lv_has ls 2 [(1, .int x_777), (0, .ref h0)] := hl
    replace hx_777 : rg (0) (2520) x_777 := hx_777
    replace hx_779 : rg (0) (2520) x_779 := hx_779
    refine lv_iload_n hx hb dX0_beginnerWins_23 rfl (lv_at hl 0 rfl) ?_
    refine lv_aload_n hx hb dX0_beginnerWins_24 rfl (lv_at hl 1 rfl) ?_
    refine va_get (D := (dC, dI)) (ci := 0) (v := .int a0) (C := RX0) (T := TX0) (N := 10) hx hb hts hinX0 hown hK hP 0 rfl rfl 6 (by decide) (hts (.fieldLink RX0 30 "MayRings$Families" "count" "I") (List.mem_of_getElem? (i := 2) rfl)) (fun _ h9 => h9) rfl dX0_beginnerWins_25 ?_
    refine lv_icmp_ge (tgt := 60) hx hb dX0_beginnerWins_28 (by decide) (fun c_797 => ?_) (fun c_797 => ?_)
    · skip
      refine lv_iconst (v := 0) hx hb dX0_beginnerWins_60 (by decide) ?_
      have hP9 := hP.sub (ws' := [(h0, .inr (0, [.ref h1, .ref h2, .ref h3, .ref h4, .ref h5, .ref h6, .int a0, .int x_779, .int a2, .int a3])), (h1, .inl (cI, 2520, .inl g0)), (h2, .inl (cI, 2520, .inl g1)), (h3, .inl (cI, 2520, .inl f_778)), (h6, .inl (cI, 9, .inl g5))]) [0, 1, 2, 3, 4] rfl
      have hD9 := hD.sub (ws' := [(h0, .inr (0, [.ref h1, .ref h2, .ref h3, .ref h4, .ref h5, .ref h6, .int a0, .int x_779, .int a2, .int a3])), (h1, .inl (cI, 2520, .inl g0)), (h2, .inl (cI, 2520, .inl g1)), (h3, .inl (cI, 2520, .inl f_778)), (h6, .inl (cI, 9, .inl g5))]) [0, 1, 2, 3, 4] (by decide) rfl
      exact W.zret (v := 0) hx hb hr (rfl) (fun t ht hW => ⟨⟨0, (), rfl, (rg_mono (rg_k (x := 0) (c := 0) (by decide)) (by decide) (by decide)), ⟨x_779, f_778, (rg_mono hx_779 (by decide) (by decide)), by rw [ht]; exact hP9, hD9⟩⟩, hS.F ht⟩) hS.2.2 dX0_beginnerWins_61
    · skip
      have h_798 : rg (0) (2519) x_777 := by have ha := hx_777; have hb_ := ha0; simp only [rg, fa_lt, fa_le, fa_eq] at ha hb_ c_797; simp only [rg]; omega
      have h_799 : rg (1) (2520) a0 := by have ha := hx_777; have hb_ := ha0; simp only [rg, fa_lt, fa_le, fa_eq] at ha hb_ c_797; simp only [rg]; omega
      refine lv_aload_n hx hb dX0_beginnerWins_31 rfl (lv_at hl 1 rfl) ?_
      refine lv_aload_n hx hb dX0_beginnerWins_32 rfl (lv_at hl 1 rfl) ?_
      refine va_get (D := (dC, dI)) (ci := 0) (v := .ref h2) (C := RX0) (T := TX0) (N := 10) hx hb hts hinX0 hown hK hP 0 rfl rfl 1 (by decide) (hts (.fieldLink RX0 15 "MayRings$Families" "orders" "[I") (List.mem_of_getElem? (i := 3) rfl)) (fun _ h9 => h9) rfl dX0_beginnerWins_33 ?_
      refine lv_iload_n hx hb dX0_beginnerWins_36 rfl (lv_at hl 0 rfl) ?_
      refine va_iald hx hb hK hP 2 1 rfl rfl (rg_in (n := 2520) (rg_mono h_798 (by decide) (by decide))) dX0_beginnerWins_37 ?_
      refine lv_topi (fun x_800 ex_800 => ?_)
      have hPc := hP.sub (ws' := [(h0, .inr (0, [.ref h1, .ref h2, .ref h3, .ref h4, .ref h5, .ref h6, .int a0, .int x_779, .int a2, .int a3])), (h6, .inl (cI, 9, .inl g5))]) [0, 4] rfl
      have hDc := hD.sub (ws' := [(h0, .inr (0, [.ref h1, .ref h2, .ref h3, .ref h4, .ref h5, .ref h6, .int a0, .int x_779, .int a2, .int a3])), (h6, .inl (cI, 9, .inl g5))]) [0, 4] (by decide) rfl
      have hFc := va_free (wc := [(h0, .inr (0, [.ref h1, .ref h2, .ref h3, .ref h4, .ref h5, .ref h6, .int a0, .int x_779, .int a2, .int a3])), (h6, .inl (cI, 9, .inl g5))]) hD hS hA [0, 4] rfl
      refine va_calli (va_runV (As := [.int x_800]) (rest := []) ⟨hx, hb, hml, hown, hts⟩ (c_s_X0_mayLead l dC dI cB cI cJ cZ cP h0 h1 h2 h3 h4 h5 h6 g5 a0 x_779 a2 (rg_mono h_2 (by decide) (by decide)) a3 x_800 H.size) (cwV 1 hts (gd_V (List.mem_of_getElem? (i := 4) rfl) (List.mem_of_getElem? (i := 5) rfl) (List.mem_of_getElem? (i := 6) rfl) (List.mem_of_getElem? (i := 7) rfl) (gd_mono k_s_X0_mayLead (fun _ h => List.mem_cons_of_mem _ (List.mem_append_right _ (List.mem_append_right _ (List.mem_append_left _ h)))))) rfl rfl rfl (by decide +kernel) ⟨Nat.le_of_ble_eq_true rfl, Nat.le_of_ble_eq_true rfl⟩) ⟨fun a U g mk q => by obtain ⟨q0, q1, qP, qK, qD⟩ := q; exact ⟨q0, q1, qP, va_K.moved (u := U) (U := U.calling g mk a) (Vm.Alike.refl U.vm) qK, qD⟩, va_recv hK hPc (ci := 0) (q0 := 0) rfl rfl, fun U hU hW => ⟨rfl, by rw [hU], by rw [hU]; exact hPc, va_K.moved hW.alike hK, hDc.weaken (fun _ _ _ _ => trivial)⟩⟩ rfl rfl hl.1 rfl (lv_room (Nat.le_of_ble_eq_true rfl)) dX0_beginnerWins_38 ⟨Nat.le_of_ble_eq_true rfl, Nat.le_of_ble_eq_true rfl⟩) hS (fun q _ h => hFc q h) hFc (fun r_801 u t H1 locs ht hvm hw hB hz1 hk1 hS => ?_)
      obtain ⟨hP1, hD1⟩ := hB
      rw [ht] at hP1
      obtain ⟨hP, hD⟩ := va_join (wr := [(h1, .inl (cI, 2520, .inl g0)), (h2, .inl (cI, 2520, .inl g1)), (h3, .inl (cI, 2520, .inl f_778))]) (w1 := [(h0, .inr (0, [.ref h1, .ref h2, .ref h3, .ref h4, .ref h5, .ref h6, .int a0, .int x_779, .int a2, .int a3])), (h6, .inl (cI, 9, .inl g5))]) hP hD [0, 4] [1, 2, 3] rfl rfl (by decide) (by decide) hk1 hFc hP1 hD1
      generalize H1 = H at hP hS ⊢
      replace hP : va_P (dC, dI) vwCl [(h1, .inl (cI, 2520, .inl g0)), (h2, .inl (cI, 2520, .inl g1)), (h3, .inl (cI, 2520, .inl f_778)), (h0, .inr (0, [.ref h1, .ref h2, .ref h3, .ref h4, .ref h5, .ref h6, .int a0, .int x_779, .int a2, .int a3])), (h6, .inl (cI, 9, .inl g5))] H := hP
      replace hD : va_D A [(h1, .inl (cI, 2520, .inl g0)), (h2, .inl (cI, 2520, .inl g1)), (h3, .inl (cI, 2520, .inl f_778)), (h0, .inr (0, [.ref h1, .ref h2, .ref h3, .ref h4, .ref h5, .ref h6, .int a0, .int x_779, .int a2, .int a3])), (h6, .inl (cI, 9, .inl g5))] := hD
      have hr_801 : rg (0) (1) r_801 := hw
      refine lv_if_eq (tgt := 54) hx hb dX0_beginnerWins_41 (by decide) (fun c_802 => ?_) (fun c_802 => ?_)
      · skip
        have h_803 : rg (0) (0) r_801 := by have ha := hr_801; have hb_ := (rg_k (x := 0) (c := 0) (by decide)); simp only [rg, fa_lt, fa_le, fa_eq, (by decide : (0 : Int32).toInt = 0)] at ha hb_ c_802; simp only [rg]; omega
        obtain ⟨x_804, ex_804⟩ : ∃ y : Int32, y = x_777 + Int32.ofInt (1) := ⟨_, rfl⟩
        have hx_804 : rg (1) (2520) x_804 := by rw [ex_804]; exact rg_mono (rg_add h_798 (rg_k (x := Int32.ofInt (1)) (c := 1) (by decide)) (by decide) (by decide)) (by decide) (by decide)
        have qx_804 : x_804.toInt = x_777.toInt + (1) := by rw [ex_804]; exact rg_addE h_798 (rg_k (x := Int32.ofInt (1)) (c := 1) (by decide)) (by decide) (by decide) (by decide)
        refine lv_iinc (v := x_804) (lv' := [(1, .int x_804), (0, .ref h0)]) hx hb dX0_beginnerWins_54 hl (k := 0) rfl (ex_804.symm) (by decide) rfl (fun ls hl => ?_)
        clear ex_804
        refine lv_goto (tgt := 23) hx hb dX0_beginnerWins_57 (by decide) ?_
        exact ih_796 (x_804, f_778, x_779) H locs ls ⟨hP.sub (ws' := [(h0, .inr (0, [.ref h1, .ref h2, .ref h3, .ref h4, .ref h5, .ref h6, .int a0, .int x_779, .int a2, .int a3])), (h1, .inl (cI, 2520, .inl g0)), (h2, .inl (cI, 2520, .inl g1)), (h3, .inl (cI, 2520, .inl f_778)), (h6, .inl (cI, 9, .inl g5))]) [3, 0, 1, 2, 4] rfl, hD.sub (ws' := [(h0, .inr (0, [.ref h1, .ref h2, .ref h3, .ref h4, .ref h5, .ref h6, .int a0, .int x_779, .int a2, .int a3])), (h1, .inl (cI, 2520, .inl g0)), (h2, .inl (cI, 2520, .inl g1)), (h3, .inl (cI, 2520, .inl f_778)), (h6, .inl (cI, 9, .inl g5))]) [3, 0, 1, 2, 4] (by decide) rfl, hS, lv_sub hl [0, 1] rfl, (rg_mono hx_804 (by decide) (by decide)), (rg_mono hx_779 (by decide) (by decide))⟩ (by show ((2520) - x_804.toInt).toNat < ((2520) - x_777.toInt).toNat; have ha := h_798; simp only [rg] at ha; omega)
      · skip
        have h_805 : rg (1) (1) r_801 := by have ha := hr_801; have hb_ := (rg_k (x := 0) (c := 0) (by decide)); simp only [rg, fa_lt, fa_le, fa_eq, (by decide : (0 : Int32).toInt = 0)] at ha hb_ c_802; simp only [rg]; omega
        refine lv_aload_n hx hb dX0_beginnerWins_44 rfl (lv_at hl 1 rfl) ?_
        refine lv_iload_n hx hb dX0_beginnerWins_45 rfl (lv_at hl 0 rfl) ?_
        have hPc := hP.sub (ws' := [(h0, .inr (0, [.ref h1, .ref h2, .ref h3, .ref h4, .ref h5, .ref h6, .int a0, .int x_779, .int a2, .int a3])), (h1, .inl (cI, 2520, .inl g0)), (h3, .inl (cI, 2520, .inl f_778))]) [3, 0, 2] rfl
        have hDc := hD.sub (ws' := [(h0, .inr (0, [.ref h1, .ref h2, .ref h3, .ref h4, .ref h5, .ref h6, .int a0, .int x_779, .int a2, .int a3])), (h1, .inl (cI, 2520, .inl g0)), (h3, .inl (cI, 2520, .inl f_778))]) [3, 0, 2] (by decide) rfl
        have hFc := va_free (wc := [(h0, .inr (0, [.ref h1, .ref h2, .ref h3, .ref h4, .ref h5, .ref h6, .int a0, .int x_779, .int a2, .int a3])), (h1, .inl (cI, 2520, .inl g0)), (h3, .inl (cI, 2520, .inl f_778))]) hD hS hA [3, 0, 2] rfl
        refine va_calli (va_runV (As := [.int x_777]) (rest := []) ⟨hx, hb, hml, hown, hts⟩ (c_s_X0_winsWith l dC dI cB cI cJ cZ cP h0 h1 g0 h2 h3 f_778 h4 h5 h6 a0 (rg_mono h_799 (by decide) (by decide)) x_779 a2 a3 x_777 (rg_mono h_798 (by decide) (by decide)) H.size) (cwV 1 hts (gd_V (List.mem_of_getElem? (i := 8) rfl) (List.mem_of_getElem? (i := 9) rfl) (List.mem_of_getElem? (i := 10) rfl) (List.mem_of_getElem? (i := 7) rfl) (gd_mono k_s_X0_winsWith (fun _ h => List.mem_cons_of_mem _ (List.mem_append_right _ (List.mem_append_right _ (List.mem_append_right _ (List.mem_append_left _ h))))))) rfl rfl rfl (by decide +kernel) ⟨Nat.le_of_ble_eq_true rfl, Nat.le_of_ble_eq_true rfl⟩) ⟨fun a U g mk q => by obtain ⟨q0, q1, qP, qK, qD⟩ := q; exact ⟨q0, q1, qP, va_K.moved (u := U) (U := U.calling g mk a) (Vm.Alike.refl U.vm) qK, qD⟩, va_recv hK hPc (ci := 0) (q0 := 0) rfl rfl, fun U hU hW => ⟨rfl, by rw [hU], by rw [hU]; exact hPc, va_K.moved hW.alike hK, hDc.weaken (fun _ _ _ _ => trivial)⟩⟩ rfl rfl hl.1 rfl (lv_room (Nat.le_of_ble_eq_true rfl)) dX0_beginnerWins_46 ⟨Nat.le_of_ble_eq_true rfl, Nat.le_of_ble_eq_true rfl⟩) hS (fun q _ h => hFc q h) hFc (fun r_806 u t H1 locs ht hvm hw hB hz1 hk1 hS => ?_)
        obtain ⟨x_807, f_808, hx_807, hP1, hD1⟩ := hB
        rw [ht] at hP1
        obtain ⟨hP, hD⟩ := va_join (wr := [(h2, .inl (cI, 2520, .inl g1)), (h6, .inl (cI, 9, .inl g5))]) (w1 := [(h0, .inr (0, [.ref h1, .ref h2, .ref h3, .ref h4, .ref h5, .ref h6, .int a0, .int x_807, .int a2, .int a3])), (h1, .inl (cI, 2520, .inl g0)), (h3, .inl (cI, 2520, .inl f_808))]) hP hD [3, 0, 2] [1, 4] rfl rfl (by decide) (by decide) hk1 hFc hP1 hD1
        generalize H1 = H at hP hS ⊢
        replace hP : va_P (dC, dI) vwCl [(h2, .inl (cI, 2520, .inl g1)), (h6, .inl (cI, 9, .inl g5)), (h0, .inr (0, [.ref h1, .ref h2, .ref h3, .ref h4, .ref h5, .ref h6, .int a0, .int x_807, .int a2, .int a3])), (h1, .inl (cI, 2520, .inl g0)), (h3, .inl (cI, 2520, .inl f_808))] H := hP
        replace hD : va_D A [(h2, .inl (cI, 2520, .inl g1)), (h6, .inl (cI, 9, .inl g5)), (h0, .inr (0, [.ref h1, .ref h2, .ref h3, .ref h4, .ref h5, .ref h6, .int a0, .int x_807, .int a2, .int a3])), (h1, .inl (cI, 2520, .inl g0)), (h3, .inl (cI, 2520, .inl f_808))] := hD
        have hr_806 : rg (0) (1) r_806 := hw
        refine lv_if_eq (tgt := 54) hx hb dX0_beginnerWins_49 (by decide) (fun c_809 => ?_) (fun c_809 => ?_)
        · skip
          have h_810 : rg (0) (0) r_806 := by have ha := hr_806; have hb_ := (rg_k (x := 0) (c := 0) (by decide)); simp only [rg, fa_lt, fa_le, fa_eq, (by decide : (0 : Int32).toInt = 0)] at ha hb_ c_809; simp only [rg]; omega
          obtain ⟨x_811, ex_811⟩ : ∃ y : Int32, y = x_777 + Int32.ofInt (1) := ⟨_, rfl⟩
          have hx_811 : rg (1) (2520) x_811 := by rw [ex_811]; exact rg_mono (rg_add h_798 (rg_k (x := Int32.ofInt (1)) (c := 1) (by decide)) (by decide) (by decide)) (by decide) (by decide)
          have qx_811 : x_811.toInt = x_777.toInt + (1) := by rw [ex_811]; exact rg_addE h_798 (rg_k (x := Int32.ofInt (1)) (c := 1) (by decide)) (by decide) (by decide) (by decide)
          refine lv_iinc (v := x_811) (lv' := [(1, .int x_811), (0, .ref h0)]) hx hb dX0_beginnerWins_54 hl (k := 0) rfl (ex_811.symm) (by decide) rfl (fun ls hl => ?_)
          clear ex_811
          refine lv_goto (tgt := 23) hx hb dX0_beginnerWins_57 (by decide) ?_
          exact ih_796 (x_811, f_808, x_807) H locs ls ⟨hP.sub (ws' := [(h0, .inr (0, [.ref h1, .ref h2, .ref h3, .ref h4, .ref h5, .ref h6, .int a0, .int x_807, .int a2, .int a3])), (h1, .inl (cI, 2520, .inl g0)), (h2, .inl (cI, 2520, .inl g1)), (h3, .inl (cI, 2520, .inl f_808)), (h6, .inl (cI, 9, .inl g5))]) [2, 3, 0, 4, 1] rfl, hD.sub (ws' := [(h0, .inr (0, [.ref h1, .ref h2, .ref h3, .ref h4, .ref h5, .ref h6, .int a0, .int x_807, .int a2, .int a3])), (h1, .inl (cI, 2520, .inl g0)), (h2, .inl (cI, 2520, .inl g1)), (h3, .inl (cI, 2520, .inl f_808)), (h6, .inl (cI, 9, .inl g5))]) [2, 3, 0, 4, 1] (by decide) rfl, hS, lv_sub hl [0, 1] rfl, (rg_mono hx_811 (by decide) (by decide)), (rg_mono hx_807 (by decide) (by decide))⟩ (by show ((2520) - x_811.toInt).toNat < ((2520) - x_777.toInt).toNat; have ha := h_798; simp only [rg] at ha; omega)
        · skip
          have h_812 : rg (1) (1) r_806 := by have ha := hr_806; have hb_ := (rg_k (x := 0) (c := 0) (by decide)); simp only [rg, fa_lt, fa_le, fa_eq, (by decide : (0 : Int32).toInt = 0)] at ha hb_ c_809; simp only [rg]; omega
          refine lv_iconst (v := 1) hx hb dX0_beginnerWins_52 (by decide) ?_
          have hP9 := hP.sub (ws' := [(h0, .inr (0, [.ref h1, .ref h2, .ref h3, .ref h4, .ref h5, .ref h6, .int a0, .int x_807, .int a2, .int a3])), (h1, .inl (cI, 2520, .inl g0)), (h2, .inl (cI, 2520, .inl g1)), (h3, .inl (cI, 2520, .inl f_808)), (h6, .inl (cI, 9, .inl g5))]) [2, 3, 0, 4, 1] rfl
          have hD9 := hD.sub (ws' := [(h0, .inr (0, [.ref h1, .ref h2, .ref h3, .ref h4, .ref h5, .ref h6, .int a0, .int x_807, .int a2, .int a3])), (h1, .inl (cI, 2520, .inl g0)), (h2, .inl (cI, 2520, .inl g1)), (h3, .inl (cI, 2520, .inl f_808)), (h6, .inl (cI, 9, .inl g5))]) [2, 3, 0, 4, 1] (by decide) rfl
          exact W.zret (v := 1) hx hb hr (rfl) (fun t ht hW => ⟨⟨1, (), rfl, (rg_mono (rg_k (x := 1) (c := 1) (by decide)) (by decide) (by decide)), ⟨x_807, f_808, (rg_mono hx_807 (by decide) (by decide)), by rw [ht]; exact hP9, hD9⟩⟩, hS.F ht⟩) hS.2.2 dX0_beginnerWins_53
  · skip
    have h_813 : rg (0) (1) a2 := by have ha := ha2; have hb_ := (rg_k (x := 2) (c := 2) (by decide)); simp only [rg, fa_lt, fa_le, fa_eq, (by decide : (2 : Int32).toInt = 2)] at ha hb_ c_1; simp only [rg]; omega
    refine lv_aload_n hx hb dX0_beginnerWins_8 rfl (lv_at hl 0 rfl) ?_
    refine va_get (D := (dC, dI)) (ci := 0) (v := .int a0) (C := RX0) (T := TX0) (N := 10) hx hb hts hinX0 hown hK hP 0 rfl rfl 6 (by decide) (hts (.fieldLink RX0 30 "MayRings$Families" "count" "I") (List.mem_of_getElem? (i := 2) rfl)) (fun _ h9 => h9) rfl dX0_beginnerWins_9 ?_
    refine lv_if_le (tgt := 19) hx hb dX0_beginnerWins_12 (by decide) (fun c_814 => ?_) (fun c_814 => ?_)
    · skip
      have h_815 : rg (0) (0) a0 := by have ha := ha0; have hb_ := (rg_k (x := 0) (c := 0) (by decide)); simp only [rg, fa_lt, fa_le, fa_eq, (by decide : (0 : Int32).toInt = 0)] at ha hb_ c_814; simp only [rg]; omega
      refine lv_iconst (v := 0) hx hb dX0_beginnerWins_19 (by decide) ?_
      have hP9 := hP.sub (ws' := [(h0, .inr (0, [.ref h1, .ref h2, .ref h3, .ref h4, .ref h5, .ref h6, .int a0, .int a1, .int a2, .int a3])), (h1, .inl (cI, 2520, .inl g0)), (h2, .inl (cI, 2520, .inl g1)), (h3, .inl (cI, 2520, .inl g2)), (h6, .inl (cI, 9, .inl g5))]) [0, 1, 2, 3, 4] rfl
      have hD9 := hD.sub (ws' := [(h0, .inr (0, [.ref h1, .ref h2, .ref h3, .ref h4, .ref h5, .ref h6, .int a0, .int a1, .int a2, .int a3])), (h1, .inl (cI, 2520, .inl g0)), (h2, .inl (cI, 2520, .inl g1)), (h3, .inl (cI, 2520, .inl g2)), (h6, .inl (cI, 9, .inl g5))]) [0, 1, 2, 3, 4] (by decide) rfl
      exact W.zret (v := 0) hx hb hr (rfl) (fun t ht hW => ⟨⟨0, (), rfl, (rg_mono (rg_k (x := 0) (c := 0) (by decide)) (by decide) (by decide)), ⟨a1, g2, (rg_mono ha1 (by decide) (by decide)), by rw [ht]; exact hP9, hD9⟩⟩, hS.F ht⟩) hS.2.2 dX0_beginnerWins_20
    · skip
      have h_816 : rg (1) (2520) a0 := by have ha := ha0; have hb_ := (rg_k (x := 0) (c := 0) (by decide)); simp only [rg, fa_lt, fa_le, fa_eq, (by decide : (0 : Int32).toInt = 0)] at ha hb_ c_814; simp only [rg]; omega
      refine lv_iconst (v := 1) hx hb dX0_beginnerWins_15 (by decide) ?_
      refine lv_goto (tgt := 20) hx hb dX0_beginnerWins_16 (by decide) ?_
      have hP9 := hP.sub (ws' := [(h0, .inr (0, [.ref h1, .ref h2, .ref h3, .ref h4, .ref h5, .ref h6, .int a0, .int a1, .int a2, .int a3])), (h1, .inl (cI, 2520, .inl g0)), (h2, .inl (cI, 2520, .inl g1)), (h3, .inl (cI, 2520, .inl g2)), (h6, .inl (cI, 9, .inl g5))]) [0, 1, 2, 3, 4] rfl
      have hD9 := hD.sub (ws' := [(h0, .inr (0, [.ref h1, .ref h2, .ref h3, .ref h4, .ref h5, .ref h6, .int a0, .int a1, .int a2, .int a3])), (h1, .inl (cI, 2520, .inl g0)), (h2, .inl (cI, 2520, .inl g1)), (h3, .inl (cI, 2520, .inl g2)), (h6, .inl (cI, 9, .inl g5))]) [0, 1, 2, 3, 4] (by decide) rfl
      exact W.zret (v := 1) hx hb hr (rfl) (fun t ht hW => ⟨⟨1, (), rfl, (rg_mono (rg_k (x := 1) (c := 1) (by decide)) (by decide) (by decide)), ⟨a1, g2, (rg_mono ha1 (by decide) (by decide)), by rw [ht]; exact hP9, hD9⟩⟩, hS.F ht⟩) hS.2.2 dX0_beginnerWins_20
def v_s_X0_hasPairApart : List Cond := Cond.code yX0_hasPairApart cX0_hasPairApart 2 (some .boolean) :: ([Cond.fieldLink RX0 34 "MayRings$Families" "restCount" "I", Cond.fieldLink RX0 18 "MayRings$Families" "rest" "[I", Cond.methodLink RX0 133 yX0_hasApart, Cond.instanceMethod yX0_hasApart, Cond.selects RX0 yX0_hasApart yX0_hasApart, Cond.initialized RX0] ++ (wsX00 ++ (v_s_X0_hasApart ++ ([]))))
theorem k_s_X0_hasPairApart : GoodIn lw_tbl v_s_X0_hasPairApart := gd_c (List.mem_of_getElem? (i := 1082) (by decide +kernel)) rfl (goodIn_app (gd_c (List.mem_of_getElem? (i := 507) (by decide +kernel)) rfl (gd_c (List.mem_of_getElem? (i := 502) (by decide +kernel)) rfl (gd_c (List.mem_of_getElem? (i := 1083) (by decide +kernel)) rfl (gd_c (List.mem_of_getElem? (i := 1085) (by decide +kernel)) rfl (gd_c (List.mem_of_getElem? (i := 63) (by decide +kernel)) rfl (gd_c (List.mem_of_getElem? (i := 143) (by decide +kernel)) rfl (gd_nil))))))) (goodIn_app kfX0 (goodIn_app k_s_X0_hasApart (gd_nil))))
set_option maxHeartbeats 2000000 in
set_option maxRecDepth 100000 in
theorem c_s_X0_hasPairApart (l : Launch) (dC : Nat → ClassId) (dI : Nat → Nat → Nat) (cB cI cJ cZ cP : ClassId) (h0 : Nat) (h1 : Nat) (h2 : Nat) (h3 : Nat) (g2 : Nat → Int32) (h4 : Nat) (h5 : Nat) (h6 : Nat) (a0 : Int32) (a1 : Int32) (ha1 : rg (0) (2520) a1) (a2 : Int32) (a3 : Int32) (sz : Nat) : Met l yX0_hasPairApart v_s_X0_hasPairApart ({ frames := 1, cells := 0, slots := 0, locals := 23 }) (va_Pc [.ref h0] (fun U => U.heap.size = sz ∧ va_P (dC, dI) vwCl [(h0, .inr (0, [.ref h1, .ref h2, .ref h3, .ref h4, .ref h5, .ref h6, .int a0, .int a1, .int a2, .int a3])), (h3, .inl (cI, 2520, .inl g2))] U.heap ∧ va_K (dC, dI) vwCl (ty5 cB cI cJ cZ cP) U ∧ va_D (fun _ => True) [(h0, .inr (0, [.ref h1, .ref h2, .ref h3, .ref h4, .ref h5, .ref h6, .int a0, .int a1, .int a2, .int a3])), (h3, .inl (cI, 2520, .inl g2))])) (va_Qi (fun (r : Int32) (u9 : Unit) => rg (0) (1) r) (fun u9 t => va_P (dC, dI) vwCl [(h0, .inr (0, [.ref h1, .ref h2, .ref h3, .ref h4, .ref h5, .ref h6, .int a0, .int a1, .int a2, .int a3])), (h3, .inl (cI, 2520, .inl g2))] t.heap ∧ va_D (va_A [(h0, .inr (0, [.ref h1, .ref h2, .ref h3, .ref h4, .ref h5, .ref h6, .int a0, .int a1, .int a2, .int a3])), (h3, .inl (cI, 2520, .inl g2))] sz) [(h0, .inr (0, [.ref h1, .ref h2, .ref h3, .ref h4, .ref h5, .ref h6, .int a0, .int a1, .int a2, .int a3])), (h3, .inl (cI, 2520, .inl g2))]) (va_A [(h0, .inr (0, [.ref h1, .ref h2, .ref h3, .ref h4, .ref h5, .ref h6, .int a0, .int a1, .int a2, .int a3])), (h3, .inl (cI, 2520, .inl g2))] sz)) 0 0 (va_A [(h0, .inr (0, [.ref h1, .ref h2, .ref h3, .ref h4, .ref h5, .ref h6, .int a0, .int a1, .int a2, .int a3])), (h3, .inl (cI, 2520, .inl g2))] sz) := by
  refine Met.ofW (cc := cX0_hasPairApart) (maxL := 2) (ret := (some .boolean)) (by decide) rfl ?_
  intro p e s m args below meth c s₁ B hml hv
  obtain ⟨rfl, hsz, hP, hK, hD0⟩ := hv
  have hx := B.exec
  have hb := B.bytes
  have hr := B.returns
  have hts := atoms_spec (ws := v_s_X0_hasPairApart) B.pre
  have hown : s.vm.findClass RX0 = some m.cls := findClass_of_methodNamed B.named
  have hlocks := B.notSynchronized
  have hinX0 : ∀ w ∈ wsX00, w ∈ v_s_X0_hasPairApart := fun _ h => List.mem_cons_of_mem _ (List.mem_append_right _ (List.mem_append_left _ h))
  subst hsz
  have hD := hD0.self (sz := s.heap.size)
  generalize hAe : va_A [(h0, .inr (0, [.ref h1, .ref h2, .ref h3, .ref h4, .ref h5, .ref h6, .int a0, .int a1, .int a2, .int a3])), (h3, .inl (cI, 2520, .inl g2))] s.heap.size = A at hD ⊢
  have hA : ∀ q : Nat, s.heap.size ≤ q → A q := fun q h => by rw [← hAe]; exact Or.inr h
  have hP : va_P (dC, dI) vwCl [(h0, .inr (0, [.ref h1, .ref h2, .ref h3, .ref h4, .ref h5, .ref h6, .int a0, .int a1, .int a2, .int a3])), (h3, .inl (cI, 2520, .inl g2))] s.heap := hP
  have hl := lv_entry ([.ref h0]) (n := 2) (Nat.le_of_ble_eq_true rfl)
  rw [lg_entry_eq]
  generalize (lg_sl ([.ref h0]) ++ List.replicate (2 - (lg_sl ([.ref h0])).length) Slot.unset).toArray = ls at hl ⊢
  have hl : lv_has ls 2 [(0, .ref h0)] := hl
  refine W_gen (A := A) hP (fun H locs hP hS => ?_)
  refine lv_iconst (v := 0) hx hb dX0_hasPairApart_0 (by decide) ?_
  refine lv_istore_n (lv' := [(1, .int 0), (0, .ref h0)]) hx hb dX0_hasPairApart_1 rfl hl (by decide) rfl (fun ls hl => ?_)
  refine W_loopM (σ := Int32) (fun u H locs ls => va_P (dC, dI) vwCl [(h0, .inr (0, [.ref h1, .ref h2, .ref h3, .ref h4, .ref h5, .ref h6, .int a0, .int a1, .int a2, .int a3])), (h3, .inl (cI, 2520, .inl g2))] H ∧ va_D A [(h0, .inr (0, [.ref h1, .ref h2, .ref h3, .ref h4, .ref h5, .ref h6, .int a0, .int a1, .int a2, .int a3])), (h3, .inl (cI, 2520, .inl g2))] ∧ va_S A s.heap H locs ∧ lv_has ls 2 [(1, .int u), (0, .ref h0)] ∧ rg (0) (2520) u) (fun u => ((2520) - u.toInt).toNat) 2 [] ?_ (0) H locs ls ⟨hP, hD, hS, hl, (rg_mono (rg_k (x := 0) (c := 0) (by decide)) (by decide) (by decide))⟩
  rintro x_449 H locs ls ⟨hP, hD, hS, hl, hx_449⟩ ih_460
  replace hP : va_P (dC, dI) vwCl [(h0, .inr (0, [.ref h1, .ref h2, .ref h3, .ref h4, .ref h5, .ref h6, .int a0, .int a1, .int a2, .int a3])), (h3, .inl (cI, 2520, .inl g2))] H := hP
  replace hD : va_D A [(h0, .inr (0, [.ref h1, .ref h2, .ref h3, .ref h4, .ref h5, .ref h6, .int a0, .int a1, .int a2, .int a3])), (h3, .inl (cI, 2520, .inl g2))] := hD
  replace hl : lv_has ls 2 [(1, .int x_449), (0, .ref h0)] := hl
  replace hx_449 : rg (0) (2520) x_449 := hx_449
  refine lv_iload_n hx hb dX0_hasPairApart_2 rfl (lv_at hl 0 rfl) ?_
  refine lv_aload_n hx hb dX0_hasPairApart_3 rfl (lv_at hl 1 rfl) ?_
  refine va_get (D := (dC, dI)) (ci := 0) (v := .int a1) (C := RX0) (T := TX0) (N := 10) hx hb hts hinX0 hown hK hP 0 rfl rfl 7 (by decide) (hts (.fieldLink RX0 34 "MayRings$Families" "restCount" "I") (List.mem_of_getElem? (i := 1) rfl)) (fun _ h9 => h9) rfl dX0_hasPairApart_4 ?_
  refine lv_icmp_ge (tgt := 34) hx hb dX0_hasPairApart_7 (by decide) (fun c_461 => ?_) (fun c_461 => ?_)
  · skip
    refine lv_iconst (v := 0) hx hb dX0_hasPairApart_34 (by decide) ?_
    have hP9 := hP.sub (ws' := [(h0, .inr (0, [.ref h1, .ref h2, .ref h3, .ref h4, .ref h5, .ref h6, .int a0, .int a1, .int a2, .int a3])), (h3, .inl (cI, 2520, .inl g2))]) [0, 1] rfl
    have hD9 := hD.sub (ws' := [(h0, .inr (0, [.ref h1, .ref h2, .ref h3, .ref h4, .ref h5, .ref h6, .int a0, .int a1, .int a2, .int a3])), (h3, .inl (cI, 2520, .inl g2))]) [0, 1] (by decide) rfl
    exact W.zret (v := 0) hx hb hr (rfl) (fun t ht hW => ⟨⟨0, (), rfl, (rg_mono (rg_k (x := 0) (c := 0) (by decide)) (by decide) (by decide)), ⟨by rw [ht]; exact hP9, hD9⟩⟩, hS.F ht⟩) hS.2.2 dX0_hasPairApart_35
  · skip
    have h_462 : rg (0) (2519) x_449 := by have ha := hx_449; have hb_ := ha1; simp only [rg, fa_lt, fa_le, fa_eq] at ha hb_ c_461; simp only [rg]; omega
    have h_463 : rg (1) (2520) a1 := by have ha := hx_449; have hb_ := ha1; simp only [rg, fa_lt, fa_le, fa_eq] at ha hb_ c_461; simp only [rg]; omega
    refine lv_aload_n hx hb dX0_hasPairApart_10 rfl (lv_at hl 1 rfl) ?_
    refine lv_aload_n hx hb dX0_hasPairApart_11 rfl (lv_at hl 1 rfl) ?_
    refine va_get (D := (dC, dI)) (ci := 0) (v := .ref h3) (C := RX0) (T := TX0) (N := 10) hx hb hts hinX0 hown hK hP 0 rfl rfl 2 (by decide) (hts (.fieldLink RX0 18 "MayRings$Families" "rest" "[I") (List.mem_of_getElem? (i := 2) rfl)) (fun _ h9 => h9) rfl dX0_hasPairApart_12 ?_
    refine lv_iload_n hx hb dX0_hasPairApart_15 rfl (lv_at hl 0 rfl) ?_
    refine va_iald hx hb hK hP 1 1 rfl rfl (rg_in (n := 2520) (rg_mono h_462 (by decide) (by decide))) dX0_hasPairApart_16 ?_
    refine lv_topi (fun x_464 ex_464 => ?_)
    refine lv_iload_n hx hb dX0_hasPairApart_17 rfl (lv_at hl 0 rfl) ?_
    refine lv_iconst (v := 1) hx hb dX0_hasPairApart_18 (by decide) ?_
    refine lv_iadd hx hb dX0_hasPairApart_19 ?_
    refine lv_topi (fun x_465 ex_465 => ?_)
    have hx_465 : rg (1) (2520) x_465 := by rw [ex_465]; exact rg_mono (rg_add h_462 (rg_k (x := 1) (c := 1) (by decide)) (by decide) (by decide)) (by decide) (by decide)
    have qx_465 : x_465.toInt = x_449.toInt + (1) := by rw [ex_465]; exact rg_addE h_462 (rg_k (x := 1) (c := 1) (by decide)) (by decide) (by decide) trivial
    have hPc := hP.sub (ws' := [(h0, .inr (0, [.ref h1, .ref h2, .ref h3, .ref h4, .ref h5, .ref h6, .int a0, .int a1, .int a2, .int a3])), (h3, .inl (cI, 2520, .inl g2))]) [0, 1] rfl
    have hDc := hD.sub (ws' := [(h0, .inr (0, [.ref h1, .ref h2, .ref h3, .ref h4, .ref h5, .ref h6, .int a0, .int a1, .int a2, .int a3])), (h3, .inl (cI, 2520, .inl g2))]) [0, 1] (by decide) rfl
    have hFc := va_free (wc := [(h0, .inr (0, [.ref h1, .ref h2, .ref h3, .ref h4, .ref h5, .ref h6, .int a0, .int a1, .int a2, .int a3])), (h3, .inl (cI, 2520, .inl g2))]) hD hS hA [0, 1] rfl
    refine va_calli (va_runV (As := [.int x_464, .int x_465]) (rest := []) ⟨hx, hb, hml, hown, hts⟩ (c_s_X0_hasApart l dC dI cB cI cJ cZ cP h0 h1 h2 h3 g2 h4 h5 h6 a0 a1 (rg_mono h_463 (by decide) (by decide)) a2 a3 x_464 x_465 (rg_mono hx_465 (by decide) (by decide)) H.size) (cwV 2 hts (gd_V (List.mem_of_getElem? (i := 3) rfl) (List.mem_of_getElem? (i := 4) rfl) (List.mem_of_getElem? (i := 5) rfl) (List.mem_of_getElem? (i := 6) rfl) (gd_mono k_s_X0_hasApart (fun _ h => List.mem_cons_of_mem _ (List.mem_append_right _ (List.mem_append_right _ (List.mem_append_left _ h)))))) rfl rfl rfl (by decide +kernel) ⟨Nat.le_of_ble_eq_true rfl, Nat.le_of_ble_eq_true rfl⟩) ⟨fun a U g mk q => by obtain ⟨q0, q1, qP, qK, qD⟩ := q; exact ⟨q0, q1, qP, va_K.moved (u := U) (U := U.calling g mk a) (Vm.Alike.refl U.vm) qK, qD⟩, va_recv hK hPc (ci := 0) (q0 := 0) rfl rfl, fun U hU hW => ⟨rfl, by rw [hU], by rw [hU]; exact hPc, va_K.moved hW.alike hK, hDc.weaken (fun _ _ _ _ => trivial)⟩⟩ rfl rfl hl.1 rfl (lv_room (Nat.le_of_ble_eq_true rfl)) dX0_hasPairApart_20 ⟨Nat.le_of_ble_eq_true rfl, Nat.le_of_ble_eq_true rfl⟩) hS (fun q _ h => hFc q h) hFc (fun r_466 u t H1 locs ht hvm hw hB hz1 hk1 hS => ?_)
    obtain ⟨hP1, hD1⟩ := hB
    rw [ht] at hP1
    obtain ⟨hP, hD⟩ := va_join (wr := []) (w1 := [(h0, .inr (0, [.ref h1, .ref h2, .ref h3, .ref h4, .ref h5, .ref h6, .int a0, .int a1, .int a2, .int a3])), (h3, .inl (cI, 2520, .inl g2))]) hP hD [0, 1] [] rfl rfl (by decide) (by decide) hk1 hFc hP1 hD1
    generalize H1 = H at hP hS ⊢
    replace hP : va_P (dC, dI) vwCl [(h0, .inr (0, [.ref h1, .ref h2, .ref h3, .ref h4, .ref h5, .ref h6, .int a0, .int a1, .int a2, .int a3])), (h3, .inl (cI, 2520, .inl g2))] H := hP
    replace hD : va_D A [(h0, .inr (0, [.ref h1, .ref h2, .ref h3, .ref h4, .ref h5, .ref h6, .int a0, .int a1, .int a2, .int a3])), (h3, .inl (cI, 2520, .inl g2))] := hD
    have hr_466 : rg (0) (1) r_466 := hw
    refine lv_if_eq (tgt := 28) hx hb dX0_hasPairApart_23 (by decide) (fun c_467 => ?_) (fun c_467 => ?_)
    · skip
      have h_468 : rg (0) (0) r_466 := by have ha := hr_466; have hb_ := (rg_k (x := 0) (c := 0) (by decide)); simp only [rg, fa_lt, fa_le, fa_eq, (by decide : (0 : Int32).toInt = 0)] at ha hb_ c_467; simp only [rg]; omega
      obtain ⟨x_469, ex_469⟩ : ∃ y : Int32, y = x_449 + Int32.ofInt (1) := ⟨_, rfl⟩
      have hx_469 : rg (1) (2520) x_469 := by rw [ex_469]; exact rg_mono (rg_add h_462 (rg_k (x := Int32.ofInt (1)) (c := 1) (by decide)) (by decide) (by decide)) (by decide) (by decide)
      have qx_469 : x_469.toInt = x_449.toInt + (1) := by rw [ex_469]; exact rg_addE h_462 (rg_k (x := Int32.ofInt (1)) (c := 1) (by decide)) (by decide) (by decide) (by decide)
      refine lv_iinc (v := x_469) (lv' := [(1, .int x_469), (0, .ref h0)]) hx hb dX0_hasPairApart_28 hl (k := 0) rfl (ex_469.symm) (by decide) rfl (fun ls hl => ?_)
      clear ex_469
      refine lv_goto (tgt := 2) hx hb dX0_hasPairApart_31 (by decide) ?_
      exact ih_460 (x_469) H locs ls ⟨hP.sub (ws' := [(h0, .inr (0, [.ref h1, .ref h2, .ref h3, .ref h4, .ref h5, .ref h6, .int a0, .int a1, .int a2, .int a3])), (h3, .inl (cI, 2520, .inl g2))]) [0, 1] rfl, hD.sub (ws' := [(h0, .inr (0, [.ref h1, .ref h2, .ref h3, .ref h4, .ref h5, .ref h6, .int a0, .int a1, .int a2, .int a3])), (h3, .inl (cI, 2520, .inl g2))]) [0, 1] (by decide) rfl, hS, lv_sub hl [0, 1] rfl, (rg_mono hx_469 (by decide) (by decide))⟩ (by show ((2520) - x_469.toInt).toNat < ((2520) - x_449.toInt).toNat; have ha := h_462; simp only [rg] at ha; omega)
    · skip
      have h_470 : rg (1) (1) r_466 := by have ha := hr_466; have hb_ := (rg_k (x := 0) (c := 0) (by decide)); simp only [rg, fa_lt, fa_le, fa_eq, (by decide : (0 : Int32).toInt = 0)] at ha hb_ c_467; simp only [rg]; omega
      refine lv_iconst (v := 1) hx hb dX0_hasPairApart_26 (by decide) ?_
      have hP9 := hP.sub (ws' := [(h0, .inr (0, [.ref h1, .ref h2, .ref h3, .ref h4, .ref h5, .ref h6, .int a0, .int a1, .int a2, .int a3])), (h3, .inl (cI, 2520, .inl g2))]) [0, 1] rfl
      have hD9 := hD.sub (ws' := [(h0, .inr (0, [.ref h1, .ref h2, .ref h3, .ref h4, .ref h5, .ref h6, .int a0, .int a1, .int a2, .int a3])), (h3, .inl (cI, 2520, .inl g2))]) [0, 1] (by decide) rfl
      exact W.zret (v := 1) hx hb hr (rfl) (fun t ht hW => ⟨⟨1, (), rfl, (rg_mono (rg_k (x := 1) (c := 1) (by decide)) (by decide) (by decide)), ⟨by rw [ht]; exact hP9, hD9⟩⟩, hS.F ht⟩) hS.2.2 dX0_hasPairApart_27
def v_s_X0_canLead : List Cond := Cond.code yX0_canLead cX0_canLead 3 (some .boolean) :: ([Cond.methodLink RX0 126 yX0_keepApart, Cond.instanceMethod yX0_keepApart, Cond.selects RX0 yX0_keepApart yX0_keepApart, Cond.initialized RX0, Cond.fieldLink RX0 34 "MayRings$Families" "restCount" "I", Cond.methodLink RX0 129 yX0_hasPairApart, Cond.instanceMethod yX0_hasPairApart, Cond.selects RX0 yX0_hasPairApart yX0_hasPairApart] ++ (wsX00 ++ (v_s_X0_keepApart ++ (v_s_X0_hasPairApart ++ ([])))))
theorem k_s_X0_canLead : GoodIn lw_tbl v_s_X0_canLead := gd_c (List.mem_of_getElem? (i := 1074) (by decide +kernel)) rfl (goodIn_app (gd_c (List.mem_of_getElem? (i := 1075) (by decide +kernel)) rfl (gd_c (List.mem_of_getElem? (i := 1077) (by decide +kernel)) rfl (gd_c (List.mem_of_getElem? (i := 61) (by decide +kernel)) rfl (gd_c (List.mem_of_getElem? (i := 143) (by decide +kernel)) rfl (gd_c (List.mem_of_getElem? (i := 507) (by decide +kernel)) rfl (gd_c (List.mem_of_getElem? (i := 1079) (by decide +kernel)) rfl (gd_c (List.mem_of_getElem? (i := 1081) (by decide +kernel)) rfl (gd_c (List.mem_of_getElem? (i := 62) (by decide +kernel)) rfl (gd_nil))))))))) (goodIn_app kfX0 (goodIn_app k_s_X0_keepApart (goodIn_app k_s_X0_hasPairApart (gd_nil)))))
set_option maxHeartbeats 2000000 in
set_option maxRecDepth 100000 in
theorem c_s_X0_canLead (l : Launch) (dC : Nat → ClassId) (dI : Nat → Nat → Nat) (cB cI cJ cZ cP : ClassId) (h0 : Nat) (h1 : Nat) (g0 : Nat → Int32) (h2 : Nat) (h3 : Nat) (g2 : Nat → Int32) (h4 : Nat) (h5 : Nat) (h6 : Nat) (a0 : Int32) (ha0 : rg (0) (2520) a0) (a1 : Int32) (a2 : Int32) (a3 : Int32) (p0 : Int32) (hp0 : rg (0) (2519) p0) (p1 : Int32) (sz : Nat) : Met l yX0_canLead v_s_X0_canLead ({ frames := 2, cells := 0, slots := 0, locals := 44 }) (va_Pc [.ref h0, .int p0, .int p1] (fun U => U.heap.size = sz ∧ va_P (dC, dI) vwCl [(h0, .inr (0, [.ref h1, .ref h2, .ref h3, .ref h4, .ref h5, .ref h6, .int a0, .int a1, .int a2, .int a3])), (h1, .inl (cI, 2520, .inl g0)), (h3, .inl (cI, 2520, .inl g2))] U.heap ∧ va_K (dC, dI) vwCl (ty5 cB cI cJ cZ cP) U ∧ va_D (fun _ => True) [(h0, .inr (0, [.ref h1, .ref h2, .ref h3, .ref h4, .ref h5, .ref h6, .int a0, .int a1, .int a2, .int a3])), (h1, .inl (cI, 2520, .inl g0)), (h3, .inl (cI, 2520, .inl g2))])) (va_Qi (fun (r : Int32) (u9 : Unit) => rg (0) (1) r) (fun u9 t => ∃ (z0 : Int32) (z1 : Nat → Int32), rg (0) (2520) z0 ∧ va_P (dC, dI) vwCl [(h0, .inr (0, [.ref h1, .ref h2, .ref h3, .ref h4, .ref h5, .ref h6, .int a0, .int z0, .int a2, .int a3])), (h1, .inl (cI, 2520, .inl g0)), (h3, .inl (cI, 2520, .inl z1))] t.heap ∧ va_D (va_A [(h0, .inr (0, [.ref h1, .ref h2, .ref h3, .ref h4, .ref h5, .ref h6, .int a0, .int a1, .int a2, .int a3])), (h1, .inl (cI, 2520, .inl g0)), (h3, .inl (cI, 2520, .inl g2))] sz) [(h0, .inr (0, [.ref h1, .ref h2, .ref h3, .ref h4, .ref h5, .ref h6, .int a0, .int z0, .int a2, .int a3])), (h1, .inl (cI, 2520, .inl g0)), (h3, .inl (cI, 2520, .inl z1))]) (va_A [(h0, .inr (0, [.ref h1, .ref h2, .ref h3, .ref h4, .ref h5, .ref h6, .int a0, .int a1, .int a2, .int a3])), (h1, .inl (cI, 2520, .inl g0)), (h3, .inl (cI, 2520, .inl g2))] sz)) 0 0 (va_A [(h0, .inr (0, [.ref h1, .ref h2, .ref h3, .ref h4, .ref h5, .ref h6, .int a0, .int a1, .int a2, .int a3])), (h1, .inl (cI, 2520, .inl g0)), (h3, .inl (cI, 2520, .inl g2))] sz) := by
  refine Met.ofW (cc := cX0_canLead) (maxL := 3) (ret := (some .boolean)) (by decide) rfl ?_
  intro p e s m args below meth c s₁ B hml hv
  obtain ⟨rfl, hsz, hP, hK, hD0⟩ := hv
  have hx := B.exec
  have hb := B.bytes
  have hr := B.returns
  have hts := atoms_spec (ws := v_s_X0_canLead) B.pre
  have hown : s.vm.findClass RX0 = some m.cls := findClass_of_methodNamed B.named
  have hlocks := B.notSynchronized
  have hinX0 : ∀ w ∈ wsX00, w ∈ v_s_X0_canLead := fun _ h => List.mem_cons_of_mem _ (List.mem_append_right _ (List.mem_append_left _ h))
  subst hsz
  have hD := hD0.self (sz := s.heap.size)
  generalize hAe : va_A [(h0, .inr (0, [.ref h1, .ref h2, .ref h3, .ref h4, .ref h5, .ref h6, .int a0, .int a1, .int a2, .int a3])), (h1, .inl (cI, 2520, .inl g0)), (h3, .inl (cI, 2520, .inl g2))] s.heap.size = A at hD ⊢
  have hA : ∀ q : Nat, s.heap.size ≤ q → A q := fun q h => by rw [← hAe]; exact Or.inr h
  have hP : va_P (dC, dI) vwCl [(h0, .inr (0, [.ref h1, .ref h2, .ref h3, .ref h4, .ref h5, .ref h6, .int a0, .int a1, .int a2, .int a3])), (h1, .inl (cI, 2520, .inl g0)), (h3, .inl (cI, 2520, .inl g2))] s.heap := hP
  have hl := lv_entry ([.ref h0, .int p0, .int p1]) (n := 3) (Nat.le_of_ble_eq_true rfl)
  rw [lg_entry_eq]
  generalize (lg_sl ([.ref h0, .int p0, .int p1]) ++ List.replicate (3 - (lg_sl ([.ref h0, .int p0, .int p1])).length) Slot.unset).toArray = ls at hl ⊢
  have hl : lv_has ls 3 [(0, .ref h0), (1, .int p0), (2, .int p1)] := hl
  refine W_gen (A := A) hP (fun H locs hP hS => ?_)
  refine lv_aload_n hx hb dX0_canLead_0 rfl (lv_at hl 0 rfl) ?_
  refine lv_iload_n hx hb dX0_canLead_1 rfl (lv_at hl 1 rfl) ?_
  refine lv_iload_n hx hb dX0_canLead_2 rfl (lv_at hl 1 rfl) ?_
  refine lv_iconst (v := 1) hx hb dX0_canLead_3 (by decide) ?_
  refine lv_iadd hx hb dX0_canLead_4 ?_
  refine lv_topi (fun x_1 ex_1 => ?_)
  have hx_1 : rg (1) (2520) x_1 := by rw [ex_1]; exact rg_mono (rg_add hp0 (rg_k (x := 1) (c := 1) (by decide)) (by decide) (by decide)) (by decide) (by decide)
  have qx_1 : x_1.toInt = p0.toInt + (1) := by rw [ex_1]; exact rg_addE hp0 (rg_k (x := 1) (c := 1) (by decide)) (by decide) (by decide) trivial
  have hPc := hP.sub (ws' := [(h0, .inr (0, [.ref h1, .ref h2, .ref h3, .ref h4, .ref h5, .ref h6, .int a0, .int a1, .int a2, .int a3])), (h1, .inl (cI, 2520, .inl g0)), (h3, .inl (cI, 2520, .inl g2))]) [0, 1, 2] rfl
  have hDc := hD.sub (ws' := [(h0, .inr (0, [.ref h1, .ref h2, .ref h3, .ref h4, .ref h5, .ref h6, .int a0, .int a1, .int a2, .int a3])), (h1, .inl (cI, 2520, .inl g0)), (h3, .inl (cI, 2520, .inl g2))]) [0, 1, 2] (by decide) rfl
  have hFc := va_free (wc := [(h0, .inr (0, [.ref h1, .ref h2, .ref h3, .ref h4, .ref h5, .ref h6, .int a0, .int a1, .int a2, .int a3])), (h1, .inl (cI, 2520, .inl g0)), (h3, .inl (cI, 2520, .inl g2))]) hD hS hA [0, 1, 2] rfl
  refine va_callv (va_runV (As := [.int p0, .int x_1]) (rest := []) ⟨hx, hb, hml, hown, hts⟩ (c_s_X0_keepApart l dC dI cB cI cJ cZ cP h0 h1 g0 h2 h3 g2 h4 h5 h6 a0 (rg_mono ha0 (by decide) (by decide)) a1 a2 a3 p0 (rg_mono hp0 (by decide) (by decide)) x_1 (rg_mono hx_1 (by decide) (by decide)) H.size) (cwV 2 hts (gd_V (List.mem_of_getElem? (i := 1) rfl) (List.mem_of_getElem? (i := 2) rfl) (List.mem_of_getElem? (i := 3) rfl) (List.mem_of_getElem? (i := 4) rfl) (gd_mono k_s_X0_keepApart (fun _ h => List.mem_cons_of_mem _ (List.mem_append_right _ (List.mem_append_right _ (List.mem_append_left _ h)))))) rfl rfl rfl (by decide +kernel) ⟨Nat.le_of_ble_eq_true rfl, Nat.le_of_ble_eq_true rfl⟩) ⟨fun a U g mk q => by obtain ⟨q0, q1, qP, qK, qD⟩ := q; exact ⟨q0, q1, qP, va_K.moved (u := U) (U := U.calling g mk a) (Vm.Alike.refl U.vm) qK, qD⟩, va_recv hK hPc (ci := 0) (q0 := 0) rfl rfl, fun U hU hW => ⟨rfl, by rw [hU], by rw [hU]; exact hPc, va_K.moved hW.alike hK, hDc.weaken (fun _ _ _ _ => trivial)⟩⟩ rfl rfl hl.1 rfl (lv_room (Nat.le_of_ble_eq_true rfl)) dX0_canLead_5 ⟨Nat.le_of_ble_eq_true rfl, Nat.le_of_ble_eq_true rfl⟩) hS (fun q _ h => hFc q h) hFc (fun u t H1 locs ht hvm hw hB hz1 hk1 hS => ?_)
  obtain ⟨x_3, f_4, hx_3, hP1, hD1⟩ := hB
  rw [ht] at hP1
  obtain ⟨hP, hD⟩ := va_join (wr := []) (w1 := [(h0, .inr (0, [.ref h1, .ref h2, .ref h3, .ref h4, .ref h5, .ref h6, .int a0, .int x_3, .int a2, .int a3])), (h1, .inl (cI, 2520, .inl g0)), (h3, .inl (cI, 2520, .inl f_4))]) hP hD [0, 1, 2] [] rfl rfl (by decide) (by decide) hk1 hFc hP1 hD1
  generalize H1 = H at hP hS ⊢
  replace hP : va_P (dC, dI) vwCl [(h0, .inr (0, [.ref h1, .ref h2, .ref h3, .ref h4, .ref h5, .ref h6, .int a0, .int x_3, .int a2, .int a3])), (h1, .inl (cI, 2520, .inl g0)), (h3, .inl (cI, 2520, .inl f_4))] H := hP
  replace hD : va_D A [(h0, .inr (0, [.ref h1, .ref h2, .ref h3, .ref h4, .ref h5, .ref h6, .int a0, .int x_3, .int a2, .int a3])), (h1, .inl (cI, 2520, .inl g0)), (h3, .inl (cI, 2520, .inl f_4))] := hD
  refine lv_aload_n hx hb dX0_canLead_8 rfl (lv_at hl 0 rfl) ?_
  refine va_get (D := (dC, dI)) (ci := 0) (v := .int x_3) (C := RX0) (T := TX0) (N := 10) hx hb hts hinX0 hown hK hP 0 rfl rfl 7 (by decide) (hts (.fieldLink RX0 34 "MayRings$Families" "restCount" "I") (List.mem_of_getElem? (i := 5) rfl)) (fun _ h9 => h9) rfl dX0_canLead_9 ?_
  refine lv_if_le (tgt := 31) hx hb dX0_canLead_12 (by decide) (fun c_5 => ?_) (fun c_5 => ?_)
  · skip
    have h_6 : rg (0) (0) x_3 := by have ha := hx_3; have hb_ := (rg_k (x := 0) (c := 0) (by decide)); simp only [rg, fa_lt, fa_le, fa_eq, (by decide : (0 : Int32).toInt = 0)] at ha hb_ c_5; simp only [rg]; omega
    refine lv_iconst (v := 0) hx hb dX0_canLead_31 (by decide) ?_
    have hP9 := hP.sub (ws' := [(h0, .inr (0, [.ref h1, .ref h2, .ref h3, .ref h4, .ref h5, .ref h6, .int a0, .int x_3, .int a2, .int a3])), (h1, .inl (cI, 2520, .inl g0)), (h3, .inl (cI, 2520, .inl f_4))]) [0, 1, 2] rfl
    have hD9 := hD.sub (ws' := [(h0, .inr (0, [.ref h1, .ref h2, .ref h3, .ref h4, .ref h5, .ref h6, .int a0, .int x_3, .int a2, .int a3])), (h1, .inl (cI, 2520, .inl g0)), (h3, .inl (cI, 2520, .inl f_4))]) [0, 1, 2] (by decide) rfl
    exact W.zret (v := 0) hx hb hr (rfl) (fun t ht hW => ⟨⟨0, (), rfl, (rg_mono (rg_k (x := 0) (c := 0) (by decide)) (by decide) (by decide)), ⟨x_3, f_4, (rg_mono h_6 (by decide) (by decide)), by rw [ht]; exact hP9, hD9⟩⟩, hS.F ht⟩) hS.2.2 dX0_canLead_32
  · skip
    have h_7 : rg (1) (2520) x_3 := by have ha := hx_3; have hb_ := (rg_k (x := 0) (c := 0) (by decide)); simp only [rg, fa_lt, fa_le, fa_eq, (by decide : (0 : Int32).toInt = 0)] at ha hb_ c_5; simp only [rg]; omega
    refine lv_iload_n hx hb dX0_canLead_15 rfl (lv_at hl 2 rfl) ?_
    refine lv_iconst (v := 2) hx hb dX0_canLead_16 (by decide) ?_
    refine lv_icmp_eq (tgt := 27) hx hb dX0_canLead_17 (by decide) (fun c_8 => ?_) (fun c_8 => ?_)
    · skip
      have h_9 : rg (2) (2) p1 := by have ha := (rg_any p1); have hb_ := (rg_k (x := 2) (c := 2) (by decide)); simp only [rg, fa_lt, fa_le, fa_eq, (by decide : (2 : Int32).toInt = 2)] at ha hb_ c_8; simp only [rg]; omega
      refine lv_iconst (v := 1) hx hb dX0_canLead_27 (by decide) ?_
      refine lv_goto (tgt := 32) hx hb dX0_canLead_28 (by decide) ?_
      have hP9 := hP.sub (ws' := [(h0, .inr (0, [.ref h1, .ref h2, .ref h3, .ref h4, .ref h5, .ref h6, .int a0, .int x_3, .int a2, .int a3])), (h1, .inl (cI, 2520, .inl g0)), (h3, .inl (cI, 2520, .inl f_4))]) [0, 1, 2] rfl
      have hD9 := hD.sub (ws' := [(h0, .inr (0, [.ref h1, .ref h2, .ref h3, .ref h4, .ref h5, .ref h6, .int a0, .int x_3, .int a2, .int a3])), (h1, .inl (cI, 2520, .inl g0)), (h3, .inl (cI, 2520, .inl f_4))]) [0, 1, 2] (by decide) rfl
      exact W.zret (v := 1) hx hb hr (rfl) (fun t ht hW => ⟨⟨1, (), rfl, (rg_mono (rg_k (x := 1) (c := 1) (by decide)) (by decide) (by decide)), ⟨x_3, f_4, (rg_mono h_7 (by decide) (by decide)), by rw [ht]; exact hP9, hD9⟩⟩, hS.F ht⟩) hS.2.2 dX0_canLead_32
    · skip
      refine lv_aload_n hx hb dX0_canLead_20 rfl (lv_at hl 0 rfl) ?_
      have hPc := hP.sub (ws' := [(h0, .inr (0, [.ref h1, .ref h2, .ref h3, .ref h4, .ref h5, .ref h6, .int a0, .int x_3, .int a2, .int a3])), (h3, .inl (cI, 2520, .inl f_4))]) [0, 2] rfl
      have hDc := hD.sub (ws' := [(h0, .inr (0, [.ref h1, .ref h2, .ref h3, .ref h4, .ref h5, .ref h6, .int a0, .int x_3, .int a2, .int a3])), (h3, .inl (cI, 2520, .inl f_4))]) [0, 2] (by decide) rfl
      have hFc := va_free (wc := [(h0, .inr (0, [.ref h1, .ref h2, .ref h3, .ref h4, .ref h5, .ref h6, .int a0, .int x_3, .int a2, .int a3])), (h3, .inl (cI, 2520, .inl f_4))]) hD hS hA [0, 2] rfl
      refine va_calli (va_runV (As := []) (rest := []) ⟨hx, hb, hml, hown, hts⟩ (c_s_X0_hasPairApart l dC dI cB cI cJ cZ cP h0 h1 h2 h3 f_4 h4 h5 h6 a0 x_3 (rg_mono h_7 (by decide) (by decide)) a2 a3 H.size) (cwV 0 hts (gd_V (List.mem_of_getElem? (i := 6) rfl) (List.mem_of_getElem? (i := 7) rfl) (List.mem_of_getElem? (i := 8) rfl) (List.mem_of_getElem? (i := 4) rfl) (gd_mono k_s_X0_hasPairApart (fun _ h => List.mem_cons_of_mem _ (List.mem_append_right _ (List.mem_append_right _ (List.mem_append_right _ (List.mem_append_left _ h))))))) rfl rfl rfl (by decide +kernel) ⟨Nat.le_of_ble_eq_true rfl, Nat.le_of_ble_eq_true rfl⟩) ⟨fun a U g mk q => by obtain ⟨q0, q1, qP, qK, qD⟩ := q; exact ⟨q0, q1, qP, va_K.moved (u := U) (U := U.calling g mk a) (Vm.Alike.refl U.vm) qK, qD⟩, va_recv hK hPc (ci := 0) (q0 := 0) rfl rfl, fun U hU hW => ⟨rfl, by rw [hU], by rw [hU]; exact hPc, va_K.moved hW.alike hK, hDc.weaken (fun _ _ _ _ => trivial)⟩⟩ rfl rfl hl.1 rfl (lv_room (Nat.le_of_ble_eq_true rfl)) dX0_canLead_21 ⟨Nat.le_of_ble_eq_true rfl, Nat.le_of_ble_eq_true rfl⟩) hS (fun q _ h => hFc q h) hFc (fun r_10 u t H1 locs ht hvm hw hB hz1 hk1 hS => ?_)
      obtain ⟨hP1, hD1⟩ := hB
      rw [ht] at hP1
      obtain ⟨hP, hD⟩ := va_join (wr := [(h1, .inl (cI, 2520, .inl g0))]) (w1 := [(h0, .inr (0, [.ref h1, .ref h2, .ref h3, .ref h4, .ref h5, .ref h6, .int a0, .int x_3, .int a2, .int a3])), (h3, .inl (cI, 2520, .inl f_4))]) hP hD [0, 2] [1] rfl rfl (by decide) (by decide) hk1 hFc hP1 hD1
      generalize H1 = H at hP hS ⊢
      replace hP : va_P (dC, dI) vwCl [(h1, .inl (cI, 2520, .inl g0)), (h0, .inr (0, [.ref h1, .ref h2, .ref h3, .ref h4, .ref h5, .ref h6, .int a0, .int x_3, .int a2, .int a3])), (h3, .inl (cI, 2520, .inl f_4))] H := hP
      replace hD : va_D A [(h1, .inl (cI, 2520, .inl g0)), (h0, .inr (0, [.ref h1, .ref h2, .ref h3, .ref h4, .ref h5, .ref h6, .int a0, .int x_3, .int a2, .int a3])), (h3, .inl (cI, 2520, .inl f_4))] := hD
      have hr_10 : rg (0) (1) r_10 := hw
      refine lv_if_eq (tgt := 31) hx hb dX0_canLead_24 (by decide) (fun c_11 => ?_) (fun c_11 => ?_)
      · skip
        have h_12 : rg (0) (0) r_10 := by have ha := hr_10; have hb_ := (rg_k (x := 0) (c := 0) (by decide)); simp only [rg, fa_lt, fa_le, fa_eq, (by decide : (0 : Int32).toInt = 0)] at ha hb_ c_11; simp only [rg]; omega
        refine lv_iconst (v := 0) hx hb dX0_canLead_31 (by decide) ?_
        have hP9 := hP.sub (ws' := [(h0, .inr (0, [.ref h1, .ref h2, .ref h3, .ref h4, .ref h5, .ref h6, .int a0, .int x_3, .int a2, .int a3])), (h1, .inl (cI, 2520, .inl g0)), (h3, .inl (cI, 2520, .inl f_4))]) [1, 0, 2] rfl
        have hD9 := hD.sub (ws' := [(h0, .inr (0, [.ref h1, .ref h2, .ref h3, .ref h4, .ref h5, .ref h6, .int a0, .int x_3, .int a2, .int a3])), (h1, .inl (cI, 2520, .inl g0)), (h3, .inl (cI, 2520, .inl f_4))]) [1, 0, 2] (by decide) rfl
        exact W.zret (v := 0) hx hb hr (rfl) (fun t ht hW => ⟨⟨0, (), rfl, (rg_mono (rg_k (x := 0) (c := 0) (by decide)) (by decide) (by decide)), ⟨x_3, f_4, (rg_mono h_7 (by decide) (by decide)), by rw [ht]; exact hP9, hD9⟩⟩, hS.F ht⟩) hS.2.2 dX0_canLead_32
      · skip
        have h_13 : rg (1) (1) r_10 := by have ha := hr_10; have hb_ := (rg_k (x := 0) (c := 0) (by decide)); simp only [rg, fa_lt, fa_le, fa_eq, (by decide : (0 : Int32).toInt = 0)] at ha hb_ c_11; simp only [rg]; omega
        refine lv_iconst (v := 1) hx hb dX0_canLead_27 (by decide) ?_
        refine lv_goto (tgt := 32) hx hb dX0_canLead_28 (by decide) ?_
        have hP9 := hP.sub (ws' := [(h0, .inr (0, [.ref h1, .ref h2, .ref h3, .ref h4, .ref h5, .ref h6, .int a0, .int x_3, .int a2, .int a3])), (h1, .inl (cI, 2520, .inl g0)), (h3, .inl (cI, 2520, .inl f_4))]) [1, 0, 2] rfl
        have hD9 := hD.sub (ws' := [(h0, .inr (0, [.ref h1, .ref h2, .ref h3, .ref h4, .ref h5, .ref h6, .int a0, .int x_3, .int a2, .int a3])), (h1, .inl (cI, 2520, .inl g0)), (h3, .inl (cI, 2520, .inl f_4))]) [1, 0, 2] (by decide) rfl
        exact W.zret (v := 1) hx hb hr (rfl) (fun t ht hW => ⟨⟨1, (), rfl, (rg_mono (rg_k (x := 1) (c := 1) (by decide)) (by decide) (by decide)), ⟨x_3, f_4, (rg_mono h_7 (by decide) (by decide)), by rw [ht]; exact hP9, hD9⟩⟩, hS.F ht⟩) hS.2.2 dX0_canLead_32
def v_s_X0_put : List Cond := Cond.code yX0_put cX0_put 5 none :: ([Cond.constant RX0 95 (-1640531535), Cond.fieldLink RX0 21 "MayRings$Families" "slots" "[I", Cond.fieldLink RX0 30 "MayRings$Families" "count" "I", Cond.fieldLink RX0 11 "MayRings$Families" "sets" "[I", Cond.fieldLink RX0 15 "MayRings$Families" "orders" "[I", Cond.fieldLink RX0 40 "MayRings$Families" "union" "I"] ++ (wsX00 ++ ([])))
theorem k_s_X0_put : GoodIn lw_tbl v_s_X0_put := gd_c (List.mem_of_getElem? (i := 1046) (by decide +kernel)) rfl (goodIn_app (gd_c (List.mem_of_getElem? (i := 1047) (by decide +kernel)) rfl (gd_c (List.mem_of_getElem? (i := 503) (by decide +kernel)) rfl (gd_c (List.mem_of_getElem? (i := 506) (by decide +kernel)) rfl (gd_c (List.mem_of_getElem? (i := 500) (by decide +kernel)) rfl (gd_c (List.mem_of_getElem? (i := 501) (by decide +kernel)) rfl (gd_c (List.mem_of_getElem? (i := 509) (by decide +kernel)) rfl (gd_nil))))))) (goodIn_app kfX0 (gd_nil)))
set_option maxHeartbeats 2000000 in
set_option maxRecDepth 100000 in
theorem c_s_X0_put (l : Launch) (dC : Nat → ClassId) (dI : Nat → Nat → Nat) (cB cI cJ cZ cP : ClassId) (h0 : Nat) (h1 : Nat) (g0 : Nat → Int32) (h2 : Nat) (g1 : Nat → Int32) (h3 : Nat) (h4 : Nat) (g3 : Nat → Int32) (h5 : Nat) (h6 : Nat) (a0 : Int32) (ha0 : rg (0) (2520) a0) (a1 : Int32) (a2 : Int32) (a3 : Int32) (p0 : Int32) (p1 : Int32) (kr0 : nbA g1) (kr1 : nb p1) (sz : Nat) : Met l yX0_put v_s_X0_put ({ frames := 0, cells := 0, slots := 0, locals := 0 }) (va_Pc [.ref h0, .int p0, .int p1] (fun U => U.heap.size = sz ∧ va_P (dC, dI) vwCl [(h0, .inr (0, [.ref h1, .ref h2, .ref h3, .ref h4, .ref h5, .ref h6, .int a0, .int a1, .int a2, .int a3])), (h1, .inl (cI, 2520, .inl g0)), (h2, .inl (cI, 2520, .inl g1)), (h4, .inl (cI, 4096, .inl g3))] U.heap ∧ va_K (dC, dI) vwCl (ty5 cB cI cJ cZ cP) U ∧ va_D (fun _ => True) [(h0, .inr (0, [.ref h1, .ref h2, .ref h3, .ref h4, .ref h5, .ref h6, .int a0, .int a1, .int a2, .int a3])), (h1, .inl (cI, 2520, .inl g0)), (h2, .inl (cI, 2520, .inl g1)), (h4, .inl (cI, 4096, .inl g3))])) (va_Qv (fun _ : Unit => True) (fun _ t => ∃ (z0 : Int32) (z1 : Int32) (z2 : Nat → Int32) (z3 : Nat → Int32) (z4 : Nat → Int32), rg (0) (2520) z0 ∧ (nbA z3) ∧ va_P (dC, dI) vwCl [(h0, .inr (0, [.ref h1, .ref h2, .ref h3, .ref h4, .ref h5, .ref h6, .int z0, .int a1, .int a2, .int z1])), (h1, .inl (cI, 2520, .inl z2)), (h2, .inl (cI, 2520, .inl z3)), (h4, .inl (cI, 4096, .inl z4))] t.heap ∧ va_D (va_A [(h0, .inr (0, [.ref h1, .ref h2, .ref h3, .ref h4, .ref h5, .ref h6, .int a0, .int a1, .int a2, .int a3])), (h1, .inl (cI, 2520, .inl g0)), (h2, .inl (cI, 2520, .inl g1)), (h4, .inl (cI, 4096, .inl g3))] sz) [(h0, .inr (0, [.ref h1, .ref h2, .ref h3, .ref h4, .ref h5, .ref h6, .int z0, .int a1, .int a2, .int z1])), (h1, .inl (cI, 2520, .inl z2)), (h2, .inl (cI, 2520, .inl z3)), (h4, .inl (cI, 4096, .inl z4))]) (va_A [(h0, .inr (0, [.ref h1, .ref h2, .ref h3, .ref h4, .ref h5, .ref h6, .int a0, .int a1, .int a2, .int a3])), (h1, .inl (cI, 2520, .inl g0)), (h2, .inl (cI, 2520, .inl g1)), (h4, .inl (cI, 4096, .inl g3))] sz)) 0 0 (va_A [(h0, .inr (0, [.ref h1, .ref h2, .ref h3, .ref h4, .ref h5, .ref h6, .int a0, .int a1, .int a2, .int a3])), (h1, .inl (cI, 2520, .inl g0)), (h2, .inl (cI, 2520, .inl g1)), (h4, .inl (cI, 4096, .inl g3))] sz) := by
  refine Met.ofW (cc := cX0_put) (maxL := 5) (ret := none) (by decide) rfl ?_
  intro p e s m args below meth c s₁ B hml hv
  obtain ⟨rfl, hsz, hP, hK, hD0⟩ := hv
  have hx := B.exec
  have hb := B.bytes
  have hr := B.returns
  have hts := atoms_spec (ws := v_s_X0_put) B.pre
  have hown : s.vm.findClass RX0 = some m.cls := findClass_of_methodNamed B.named
  have hlocks := B.notSynchronized
  have hinX0 : ∀ w ∈ wsX00, w ∈ v_s_X0_put := fun _ h => List.mem_cons_of_mem _ (List.mem_append_right _ (List.mem_append_left _ h))
  subst hsz
  have hD := hD0.self (sz := s.heap.size)
  generalize hAe : va_A [(h0, .inr (0, [.ref h1, .ref h2, .ref h3, .ref h4, .ref h5, .ref h6, .int a0, .int a1, .int a2, .int a3])), (h1, .inl (cI, 2520, .inl g0)), (h2, .inl (cI, 2520, .inl g1)), (h4, .inl (cI, 4096, .inl g3))] s.heap.size = A at hD ⊢
  have hA : ∀ q : Nat, s.heap.size ≤ q → A q := fun q h => by rw [← hAe]; exact Or.inr h
  have hP : va_P (dC, dI) vwCl [(h0, .inr (0, [.ref h1, .ref h2, .ref h3, .ref h4, .ref h5, .ref h6, .int a0, .int a1, .int a2, .int a3])), (h1, .inl (cI, 2520, .inl g0)), (h2, .inl (cI, 2520, .inl g1)), (h4, .inl (cI, 4096, .inl g3))] s.heap := hP
  have hl := lv_entry ([.ref h0, .int p0, .int p1]) (n := 5) (Nat.le_of_ble_eq_true rfl)
  rw [lg_entry_eq]
  generalize (lg_sl ([.ref h0, .int p0, .int p1]) ++ List.replicate (5 - (lg_sl ([.ref h0, .int p0, .int p1])).length) Slot.unset).toArray = ls at hl ⊢
  have hl : lv_has ls 5 [(0, .ref h0), (1, .int p0), (2, .int p1)] := hl
  refine W_gen (A := A) hP (fun H locs hP hS => ?_)
  refine lv_iload_n hx hb dX0_put_0 rfl (lv_at hl 1 rfl) ?_
  refine lv_ldc (v := (-1640531535)) hx hb hown (hts (.constant RX0 95 (-1640531535)) (List.mem_of_getElem? (i := 1) rfl)) dX0_put_1 ?_
  refine lv_imul hx hb dX0_put_3 ?_
  refine lv_topi (fun x_1 ex_1 => ?_)
  refine lv_bipush (v := 20) hx hb dX0_put_4 (by decide) ?_
  refine lv_iushr hx hb dX0_put_6 rfl ?_
  refine lv_topi (fun x_2 ex_2 => ?_)
  have hx_2 : rg (0) (4095) x_2 := by rw [ex_2]; exact rg_mono (rg_ushr 20 (by decide) (by decide)) (by decide) (by decide)
  refine lv_istore_n (lv' := [(3, .int x_2), (0, .ref h0), (1, .int p0), (2, .int p1)]) hx hb dX0_put_7 rfl hl (by decide) rfl (fun ls hl => ?_)
  refine lv_iconst (v := 0) hx hb dX0_put_8 (by decide) ?_
  refine lv_istore (lv' := [(4, .int 0), (3, .int x_2), (0, .ref h0), (1, .int p0), (2, .int p1)]) hx hb dX0_put_9 hl (by decide) rfl (fun ls hl => ?_)
  refine W_loopM (σ := Int32 × Int32) (fun u H locs ls => va_P (dC, dI) vwCl [(h0, .inr (0, [.ref h1, .ref h2, .ref h3, .ref h4, .ref h5, .ref h6, .int a0, .int a1, .int a2, .int a3])), (h1, .inl (cI, 2520, .inl g0)), (h2, .inl (cI, 2520, .inl g1)), (h4, .inl (cI, 4096, .inl g3))] H ∧ va_D A [(h0, .inr (0, [.ref h1, .ref h2, .ref h3, .ref h4, .ref h5, .ref h6, .int a0, .int a1, .int a2, .int a3])), (h1, .inl (cI, 2520, .inl g0)), (h2, .inl (cI, 2520, .inl g1)), (h4, .inl (cI, 4096, .inl g3))] ∧ va_S A s.heap H locs ∧ lv_has ls 5 [(4, .int u.1), (3, .int u.2), (0, .ref h0), (1, .int p0), (2, .int p1)] ∧ rg (0) (4096) u.1 ∧ rg (0) (4095) u.2) (fun u => ((4096) - u.1.toInt).toNat) 11 [] ?_ (0, x_2) H locs ls ⟨hP, hD, hS, hl, (rg_mono (rg_k (x := 0) (c := 0) (by decide)) (by decide) (by decide)), (rg_mono hx_2 (by decide) (by decide))⟩
  rintro ⟨x_859, x_860⟩ H locs ls ⟨hP, hD, hS, hl, hx_859, hx_860⟩ ih_890
  replace hP : va_P (dC, dI) vwCl [(h0, .inr (0, [.ref h1, .ref h2, .ref h3, .ref h4, .ref h5, .ref h6, .int a0, .int a1, .int a2, .int a3])), (h1, .inl (cI, 2520, .inl g0)), (h2, .inl (cI, 2520, .inl g1)), (h4, .inl (cI, 4096, .inl g3))] H := hP
  replace hD : va_D A [(h0, .inr (0, [.ref h1, .ref h2, .ref h3, .ref h4, .ref h5, .ref h6, .int a0, .int a1, .int a2, .int a3])), (h1, .inl (cI, 2520, .inl g0)), (h2, .inl (cI, 2520, .inl g1)), (h4, .inl (cI, 4096, .inl g3))] := hD
  replace hl : lv_has ls 5 [(4, .int x_859), (3, .int x_860), (0, .ref h0), (1, .int p0), (2, .int p1)] := hl
  replace hx_859 : rg (0) (4096) x_859 := hx_859
  replace hx_860 : rg (0) (4095) x_860 := hx_860
  refine lv_iload hx hb dX0_put_11 (lv_at hl 0 rfl) ?_
  refine lv_sipush (v := 4096) hx hb dX0_put_13 (by decide) ?_
  refine lv_icmp_ge (tgt := 55) hx hb dX0_put_16 (by decide) (fun c_891 => ?_) (fun c_891 => ?_)
  · skip
    have h_892 : rg (4096) (4096) x_859 := by have ha := hx_859; have hb_ := (rg_k (x := 4096) (c := 4096) (by decide)); simp only [rg, fa_lt, fa_le, fa_eq, (by decide : (4096 : Int32).toInt = 4096)] at ha hb_ c_891; simp only [rg]; omega
    refine lv_aload_n hx hb dX0_put_55 rfl (lv_at hl 2 rfl) ?_
    refine va_get (D := (dC, dI)) (ci := 0) (v := .ref h4) (C := RX0) (T := TX0) (N := 10) hx hb hts hinX0 hown hK hP 0 rfl rfl 3 (by decide) (hts (.fieldLink RX0 21 "MayRings$Families" "slots" "[I") (List.mem_of_getElem? (i := 2) rfl)) (fun _ h9 => h9) rfl dX0_put_56 ?_
    refine lv_iload_n hx hb dX0_put_59 rfl (lv_at hl 1 rfl) ?_
    refine lv_iload_n hx hb dX0_put_60 rfl (lv_at hl 3 rfl) ?_
    refine lv_iconst (v := 1) hx hb dX0_put_61 (by decide) ?_
    refine lv_iadd hx hb dX0_put_62 ?_
    refine lv_topi (fun x_893 ex_893 => ?_)
    refine va_iast hx hb hK hP hD hS 3 1 rfl rfl (rg_in (n := 4096) (rg_mono hx_860 (by decide) (by decide))) dX0_put_63 (fun H locs hP hD hS => ?_)
    obtain ⟨f_894, ef_894⟩ : ∃ f : Nat → Int32, f = upd g3 (x_860 : Int32).toNatClampNeg x_893 := ⟨_, rfl⟩
    rw [← ef_894] at hP hD
    clear ef_894
    replace hP : va_P (dC, dI) vwCl [(h0, .inr (0, [.ref h1, .ref h2, .ref h3, .ref h4, .ref h5, .ref h6, .int a0, .int a1, .int a2, .int a3])), (h1, .inl (cI, 2520, .inl g0)), (h2, .inl (cI, 2520, .inl g1)), (h4, .inl (cI, 4096, .inl f_894))] H := hP
    replace hD : va_D A [(h0, .inr (0, [.ref h1, .ref h2, .ref h3, .ref h4, .ref h5, .ref h6, .int a0, .int a1, .int a2, .int a3])), (h1, .inl (cI, 2520, .inl g0)), (h2, .inl (cI, 2520, .inl g1)), (h4, .inl (cI, 4096, .inl f_894))] := hD
    refine lv_aload_n hx hb dX0_put_64 rfl (lv_at hl 2 rfl) ?_
    refine va_get (D := (dC, dI)) (ci := 0) (v := .int a0) (C := RX0) (T := TX0) (N := 10) hx hb hts hinX0 hown hK hP 0 rfl rfl 6 (by decide) (hts (.fieldLink RX0 30 "MayRings$Families" "count" "I") (List.mem_of_getElem? (i := 3) rfl)) (fun _ h9 => h9) rfl dX0_put_65 ?_
    refine lv_sipush (v := 2520) hx hb dX0_put_68 (by decide) ?_
    refine lv_icmp_ge (tgt := 114) hx hb dX0_put_71 (by decide) (fun c_895 => ?_) (fun c_895 => ?_)
    · skip
      have h_896 : rg (2520) (2520) a0 := by have ha := ha0; have hb_ := (rg_k (x := 2520) (c := 2520) (by decide)); simp only [rg, fa_lt, fa_le, fa_eq, (by decide : (2520 : Int32).toInt = 2520)] at ha hb_ c_895; simp only [rg]; omega
      have hP9 := hP.sub (ws' := [(h0, .inr (0, [.ref h1, .ref h2, .ref h3, .ref h4, .ref h5, .ref h6, .int a0, .int a1, .int a2, .int a3])), (h1, .inl (cI, 2520, .inl g0)), (h2, .inl (cI, 2520, .inl g1)), (h4, .inl (cI, 4096, .inl f_894))]) [0, 1, 2, 3] rfl
      have hD9 := hD.sub (ws' := [(h0, .inr (0, [.ref h1, .ref h2, .ref h3, .ref h4, .ref h5, .ref h6, .int a0, .int a1, .int a2, .int a3])), (h1, .inl (cI, 2520, .inl g0)), (h2, .inl (cI, 2520, .inl g1)), (h4, .inl (cI, 4096, .inl f_894))]) [0, 1, 2, 3] (by decide) rfl
      exact W.vret hx hb hr (fun t ht hW => ⟨⟨(), rfl, trivial, ⟨a0, a3, g0, g1, f_894, (rg_mono h_896 (by decide) (by decide)), kr0, by rw [ht]; exact hP9, hD9⟩⟩, hS.F ht⟩) hS.2.2 dX0_put_114
    · skip
      have h_897 : rg (0) (2519) a0 := by have ha := ha0; have hb_ := (rg_k (x := 2520) (c := 2520) (by decide)); simp only [rg, fa_lt, fa_le, fa_eq, (by decide : (2520 : Int32).toInt = 2520)] at ha hb_ c_895; simp only [rg]; omega
      refine lv_aload_n hx hb dX0_put_74 rfl (lv_at hl 2 rfl) ?_
      refine va_get (D := (dC, dI)) (ci := 0) (v := .ref h1) (C := RX0) (T := TX0) (N := 10) hx hb hts hinX0 hown hK hP 0 rfl rfl 0 (by decide) (hts (.fieldLink RX0 11 "MayRings$Families" "sets" "[I") (List.mem_of_getElem? (i := 4) rfl)) (fun _ h9 => h9) rfl dX0_put_75 ?_
      refine lv_aload_n hx hb dX0_put_78 rfl (lv_at hl 2 rfl) ?_
      refine va_get (D := (dC, dI)) (ci := 0) (v := .int a0) (C := RX0) (T := TX0) (N := 10) hx hb hts hinX0 hown hK hP 0 rfl rfl 6 (by decide) (hts (.fieldLink RX0 30 "MayRings$Families" "count" "I") (List.mem_of_getElem? (i := 3) rfl)) (fun _ h9 => h9) rfl dX0_put_79 ?_
      refine lv_iload_n hx hb dX0_put_82 rfl (lv_at hl 3 rfl) ?_
      refine va_iast hx hb hK hP hD hS 1 1 rfl rfl (rg_in (n := 2520) (rg_mono h_897 (by decide) (by decide))) dX0_put_83 (fun H locs hP hD hS => ?_)
      obtain ⟨f_898, ef_898⟩ : ∃ f : Nat → Int32, f = upd g0 (a0 : Int32).toNatClampNeg p0 := ⟨_, rfl⟩
      rw [← ef_898] at hP hD
      clear ef_898
      replace hP : va_P (dC, dI) vwCl [(h0, .inr (0, [.ref h1, .ref h2, .ref h3, .ref h4, .ref h5, .ref h6, .int a0, .int a1, .int a2, .int a3])), (h1, .inl (cI, 2520, .inl f_898)), (h2, .inl (cI, 2520, .inl g1)), (h4, .inl (cI, 4096, .inl f_894))] H := hP
      replace hD : va_D A [(h0, .inr (0, [.ref h1, .ref h2, .ref h3, .ref h4, .ref h5, .ref h6, .int a0, .int a1, .int a2, .int a3])), (h1, .inl (cI, 2520, .inl f_898)), (h2, .inl (cI, 2520, .inl g1)), (h4, .inl (cI, 4096, .inl f_894))] := hD
      refine lv_aload_n hx hb dX0_put_84 rfl (lv_at hl 2 rfl) ?_
      refine va_get (D := (dC, dI)) (ci := 0) (v := .ref h2) (C := RX0) (T := TX0) (N := 10) hx hb hts hinX0 hown hK hP 0 rfl rfl 1 (by decide) (hts (.fieldLink RX0 15 "MayRings$Families" "orders" "[I") (List.mem_of_getElem? (i := 5) rfl)) (fun _ h9 => h9) rfl dX0_put_85 ?_
      refine lv_aload_n hx hb dX0_put_88 rfl (lv_at hl 2 rfl) ?_
      refine va_get (D := (dC, dI)) (ci := 0) (v := .int a0) (C := RX0) (T := TX0) (N := 10) hx hb hts hinX0 hown hK hP 0 rfl rfl 6 (by decide) (hts (.fieldLink RX0 30 "MayRings$Families" "count" "I") (List.mem_of_getElem? (i := 3) rfl)) (fun _ h9 => h9) rfl dX0_put_89 ?_
      refine lv_iload_n hx hb dX0_put_92 rfl (lv_at hl 4 rfl) ?_
      refine va_iast hx hb hK hP hD hS 2 1 rfl rfl (rg_in (n := 2520) (rg_mono h_897 (by decide) (by decide))) dX0_put_93 (fun H locs hP hD hS => ?_)
      obtain ⟨f_899, ef_899⟩ : ∃ f : Nat → Int32, f = upd g1 (a0 : Int32).toNatClampNeg p1 := ⟨_, rfl⟩
      rw [← ef_899] at hP hD
      replace hP : va_P (dC, dI) vwCl [(h0, .inr (0, [.ref h1, .ref h2, .ref h3, .ref h4, .ref h5, .ref h6, .int a0, .int a1, .int a2, .int a3])), (h1, .inl (cI, 2520, .inl f_898)), (h2, .inl (cI, 2520, .inl f_899)), (h4, .inl (cI, 4096, .inl f_894))] H := hP
      replace hD : va_D A [(h0, .inr (0, [.ref h1, .ref h2, .ref h3, .ref h4, .ref h5, .ref h6, .int a0, .int a1, .int a2, .int a3])), (h1, .inl (cI, 2520, .inl f_898)), (h2, .inl (cI, 2520, .inl f_899)), (h4, .inl (cI, 4096, .inl f_894))] := hD
      refine lv_aload_n hx hb dX0_put_94 rfl (lv_at hl 2 rfl) ?_
      refine lv_dup hx hb dX0_put_95 rfl ?_
      refine va_get (D := (dC, dI)) (ci := 0) (v := .int a0) (C := RX0) (T := TX0) (N := 10) hx hb hts hinX0 hown hK hP 0 rfl rfl 6 (by decide) (hts (.fieldLink RX0 30 "MayRings$Families" "count" "I") (List.mem_of_getElem? (i := 3) rfl)) (fun _ h9 => h9) rfl dX0_put_96 ?_
      refine lv_iconst (v := 1) hx hb dX0_put_99 (by decide) ?_
      refine lv_iadd hx hb dX0_put_100 ?_
      refine lv_topi (fun x_900 ex_900 => ?_)
      have hx_900 : rg (1) (2520) x_900 := by rw [ex_900]; exact rg_mono (rg_add h_897 (rg_k (x := 1) (c := 1) (by decide)) (by decide) (by decide)) (by decide) (by decide)
      have qx_900 : x_900.toInt = a0.toInt + (1) := by rw [ex_900]; exact rg_addE h_897 (rg_k (x := 1) (c := 1) (by decide)) (by decide) (by decide) trivial
      refine va_put (D := (dC, dI)) (ci := 0) (v := .int x_900) (ty := .int) (C := RX0) (T := TX0) (N := 10) hx hb hts hinX0 tyX0 tyX0_ok nmX0 hown hK hP hD hS 0 rfl rfl 6 (by decide) (hts (.fieldLink RX0 30 "MayRings$Families" "count" "I") (List.mem_of_getElem? (i := 3) rfl)) (fun _ h9 => h9) rfl (by decide +kernel) (rfl) (rfl) (Nat.le_of_ble_eq_true rfl) dX0_put_101 (fun H locs hP hD hS => ?_)
      replace hP : va_P (dC, dI) vwCl [(h0, .inr (0, [.ref h1, .ref h2, .ref h3, .ref h4, .ref h5, .ref h6, .int x_900, .int a1, .int a2, .int a3])), (h1, .inl (cI, 2520, .inl f_898)), (h2, .inl (cI, 2520, .inl f_899)), (h4, .inl (cI, 4096, .inl f_894))] H := hP
      replace hD : va_D A [(h0, .inr (0, [.ref h1, .ref h2, .ref h3, .ref h4, .ref h5, .ref h6, .int x_900, .int a1, .int a2, .int a3])), (h1, .inl (cI, 2520, .inl f_898)), (h2, .inl (cI, 2520, .inl f_899)), (h4, .inl (cI, 4096, .inl f_894))] := hD
      refine lv_aload_n hx hb dX0_put_104 rfl (lv_at hl 2 rfl) ?_
      refine lv_dup hx hb dX0_put_105 rfl ?_
      refine va_get (D := (dC, dI)) (ci := 0) (v := .int a3) (C := RX0) (T := TX0) (N := 10) hx hb hts hinX0 hown hK hP 0 rfl rfl 9 (by decide) (hts (.fieldLink RX0 40 "MayRings$Families" "union" "I") (List.mem_of_getElem? (i := 6) rfl)) (fun _ h9 => h9) rfl dX0_put_106 ?_
      refine lv_iload_n hx hb dX0_put_109 rfl (lv_at hl 3 rfl) ?_
      refine lv_ior hx hb dX0_put_110 ?_
      refine lv_topi (fun x_901 ex_901 => ?_)
      refine va_put (D := (dC, dI)) (ci := 0) (v := .int x_901) (ty := .int) (C := RX0) (T := TX0) (N := 10) hx hb hts hinX0 tyX0 tyX0_ok nmX0 hown hK hP hD hS 0 rfl rfl 9 (by decide) (hts (.fieldLink RX0 40 "MayRings$Families" "union" "I") (List.mem_of_getElem? (i := 6) rfl)) (fun _ h9 => h9) rfl (by decide +kernel) (rfl) (rfl) (Nat.le_of_ble_eq_true rfl) dX0_put_111 (fun H locs hP hD hS => ?_)
      replace hP : va_P (dC, dI) vwCl [(h0, .inr (0, [.ref h1, .ref h2, .ref h3, .ref h4, .ref h5, .ref h6, .int x_900, .int a1, .int a2, .int x_901])), (h1, .inl (cI, 2520, .inl f_898)), (h2, .inl (cI, 2520, .inl f_899)), (h4, .inl (cI, 4096, .inl f_894))] H := hP
      replace hD : va_D A [(h0, .inr (0, [.ref h1, .ref h2, .ref h3, .ref h4, .ref h5, .ref h6, .int x_900, .int a1, .int a2, .int x_901])), (h1, .inl (cI, 2520, .inl f_898)), (h2, .inl (cI, 2520, .inl f_899)), (h4, .inl (cI, 4096, .inl f_894))] := hD
      have hP9 := hP.sub (ws' := [(h0, .inr (0, [.ref h1, .ref h2, .ref h3, .ref h4, .ref h5, .ref h6, .int x_900, .int a1, .int a2, .int x_901])), (h1, .inl (cI, 2520, .inl f_898)), (h2, .inl (cI, 2520, .inl f_899)), (h4, .inl (cI, 4096, .inl f_894))]) [0, 1, 2, 3] rfl
      have hD9 := hD.sub (ws' := [(h0, .inr (0, [.ref h1, .ref h2, .ref h3, .ref h4, .ref h5, .ref h6, .int x_900, .int a1, .int a2, .int x_901])), (h1, .inl (cI, 2520, .inl f_898)), (h2, .inl (cI, 2520, .inl f_899)), (h4, .inl (cI, 4096, .inl f_894))]) [0, 1, 2, 3] (by decide) rfl
      exact W.vret hx hb hr (fun t ht hW => ⟨⟨(), rfl, trivial, ⟨x_900, x_901, f_898, f_899, f_894, (rg_mono hx_900 (by decide) (by decide)), (show nbA f_899 from nbA_upd kr0 kr1 ef_899), by rw [ht]; exact hP9, hD9⟩⟩, hS.F ht⟩) hS.2.2 dX0_put_114
  · skip
    have h_902 : rg (0) (4095) x_859 := by have ha := hx_859; have hb_ := (rg_k (x := 4096) (c := 4096) (by decide)); simp only [rg, fa_lt, fa_le, fa_eq, (by decide : (4096 : Int32).toInt = 4096)] at ha hb_ c_891; simp only [rg]; omega
    refine lv_aload_n hx hb dX0_put_19 rfl (lv_at hl 2 rfl) ?_
    refine va_get (D := (dC, dI)) (ci := 0) (v := .ref h4) (C := RX0) (T := TX0) (N := 10) hx hb hts hinX0 hown hK hP 0 rfl rfl 3 (by decide) (hts (.fieldLink RX0 21 "MayRings$Families" "slots" "[I") (List.mem_of_getElem? (i := 2) rfl)) (fun _ h9 => h9) rfl dX0_put_20 ?_
    refine lv_iload_n hx hb dX0_put_23 rfl (lv_at hl 1 rfl) ?_
    refine va_iald hx hb hK hP 3 1 rfl rfl (rg_in (n := 4096) (rg_mono hx_860 (by decide) (by decide))) dX0_put_24 ?_
    refine lv_topi (fun x_903 ex_903 => ?_)
    refine lv_if_eq (tgt := 55) hx hb dX0_put_25 (by decide) (fun c_904 => ?_) (fun c_904 => ?_)
    · skip
      have h_905 : rg (0) (0) x_903 := by have ha := (rg_any x_903); have hb_ := (rg_k (x := 0) (c := 0) (by decide)); simp only [rg, fa_lt, fa_le, fa_eq, (by decide : (0 : Int32).toInt = 0)] at ha hb_ c_904; simp only [rg]; omega
      refine lv_aload_n hx hb dX0_put_55 rfl (lv_at hl 2 rfl) ?_
      refine va_get (D := (dC, dI)) (ci := 0) (v := .ref h4) (C := RX0) (T := TX0) (N := 10) hx hb hts hinX0 hown hK hP 0 rfl rfl 3 (by decide) (hts (.fieldLink RX0 21 "MayRings$Families" "slots" "[I") (List.mem_of_getElem? (i := 2) rfl)) (fun _ h9 => h9) rfl dX0_put_56 ?_
      refine lv_iload_n hx hb dX0_put_59 rfl (lv_at hl 1 rfl) ?_
      refine lv_iload_n hx hb dX0_put_60 rfl (lv_at hl 3 rfl) ?_
      refine lv_iconst (v := 1) hx hb dX0_put_61 (by decide) ?_
      refine lv_iadd hx hb dX0_put_62 ?_
      refine lv_topi (fun x_906 ex_906 => ?_)
      refine va_iast hx hb hK hP hD hS 3 1 rfl rfl (rg_in (n := 4096) (rg_mono hx_860 (by decide) (by decide))) dX0_put_63 (fun H locs hP hD hS => ?_)
      obtain ⟨f_907, ef_907⟩ : ∃ f : Nat → Int32, f = upd g3 (x_860 : Int32).toNatClampNeg x_906 := ⟨_, rfl⟩
      rw [← ef_907] at hP hD
      clear ef_907
      replace hP : va_P (dC, dI) vwCl [(h0, .inr (0, [.ref h1, .ref h2, .ref h3, .ref h4, .ref h5, .ref h6, .int a0, .int a1, .int a2, .int a3])), (h1, .inl (cI, 2520, .inl g0)), (h2, .inl (cI, 2520, .inl g1)), (h4, .inl (cI, 4096, .inl f_907))] H := hP
      replace hD : va_D A [(h0, .inr (0, [.ref h1, .ref h2, .ref h3, .ref h4, .ref h5, .ref h6, .int a0, .int a1, .int a2, .int a3])), (h1, .inl (cI, 2520, .inl g0)), (h2, .inl (cI, 2520, .inl g1)), (h4, .inl (cI, 4096, .inl f_907))] := hD
      refine lv_aload_n hx hb dX0_put_64 rfl (lv_at hl 2 rfl) ?_
      refine va_get (D := (dC, dI)) (ci := 0) (v := .int a0) (C := RX0) (T := TX0) (N := 10) hx hb hts hinX0 hown hK hP 0 rfl rfl 6 (by decide) (hts (.fieldLink RX0 30 "MayRings$Families" "count" "I") (List.mem_of_getElem? (i := 3) rfl)) (fun _ h9 => h9) rfl dX0_put_65 ?_
      refine lv_sipush (v := 2520) hx hb dX0_put_68 (by decide) ?_
      refine lv_icmp_ge (tgt := 114) hx hb dX0_put_71 (by decide) (fun c_908 => ?_) (fun c_908 => ?_)
      · skip
        have h_909 : rg (2520) (2520) a0 := by have ha := ha0; have hb_ := (rg_k (x := 2520) (c := 2520) (by decide)); simp only [rg, fa_lt, fa_le, fa_eq, (by decide : (2520 : Int32).toInt = 2520)] at ha hb_ c_908; simp only [rg]; omega
        have hP9 := hP.sub (ws' := [(h0, .inr (0, [.ref h1, .ref h2, .ref h3, .ref h4, .ref h5, .ref h6, .int a0, .int a1, .int a2, .int a3])), (h1, .inl (cI, 2520, .inl g0)), (h2, .inl (cI, 2520, .inl g1)), (h4, .inl (cI, 4096, .inl f_907))]) [0, 1, 2, 3] rfl
        have hD9 := hD.sub (ws' := [(h0, .inr (0, [.ref h1, .ref h2, .ref h3, .ref h4, .ref h5, .ref h6, .int a0, .int a1, .int a2, .int a3])), (h1, .inl (cI, 2520, .inl g0)), (h2, .inl (cI, 2520, .inl g1)), (h4, .inl (cI, 4096, .inl f_907))]) [0, 1, 2, 3] (by decide) rfl
        exact W.vret hx hb hr (fun t ht hW => ⟨⟨(), rfl, trivial, ⟨a0, a3, g0, g1, f_907, (rg_mono h_909 (by decide) (by decide)), kr0, by rw [ht]; exact hP9, hD9⟩⟩, hS.F ht⟩) hS.2.2 dX0_put_114
      · skip
        have h_910 : rg (0) (2519) a0 := by have ha := ha0; have hb_ := (rg_k (x := 2520) (c := 2520) (by decide)); simp only [rg, fa_lt, fa_le, fa_eq, (by decide : (2520 : Int32).toInt = 2520)] at ha hb_ c_908; simp only [rg]; omega
        refine lv_aload_n hx hb dX0_put_74 rfl (lv_at hl 2 rfl) ?_
        refine va_get (D := (dC, dI)) (ci := 0) (v := .ref h1) (C := RX0) (T := TX0) (N := 10) hx hb hts hinX0 hown hK hP 0 rfl rfl 0 (by decide) (hts (.fieldLink RX0 11 "MayRings$Families" "sets" "[I") (List.mem_of_getElem? (i := 4) rfl)) (fun _ h9 => h9) rfl dX0_put_75 ?_
        refine lv_aload_n hx hb dX0_put_78 rfl (lv_at hl 2 rfl) ?_
        refine va_get (D := (dC, dI)) (ci := 0) (v := .int a0) (C := RX0) (T := TX0) (N := 10) hx hb hts hinX0 hown hK hP 0 rfl rfl 6 (by decide) (hts (.fieldLink RX0 30 "MayRings$Families" "count" "I") (List.mem_of_getElem? (i := 3) rfl)) (fun _ h9 => h9) rfl dX0_put_79 ?_
        refine lv_iload_n hx hb dX0_put_82 rfl (lv_at hl 3 rfl) ?_
        refine va_iast hx hb hK hP hD hS 1 1 rfl rfl (rg_in (n := 2520) (rg_mono h_910 (by decide) (by decide))) dX0_put_83 (fun H locs hP hD hS => ?_)
        obtain ⟨f_911, ef_911⟩ : ∃ f : Nat → Int32, f = upd g0 (a0 : Int32).toNatClampNeg p0 := ⟨_, rfl⟩
        rw [← ef_911] at hP hD
        clear ef_911
        replace hP : va_P (dC, dI) vwCl [(h0, .inr (0, [.ref h1, .ref h2, .ref h3, .ref h4, .ref h5, .ref h6, .int a0, .int a1, .int a2, .int a3])), (h1, .inl (cI, 2520, .inl f_911)), (h2, .inl (cI, 2520, .inl g1)), (h4, .inl (cI, 4096, .inl f_907))] H := hP
        replace hD : va_D A [(h0, .inr (0, [.ref h1, .ref h2, .ref h3, .ref h4, .ref h5, .ref h6, .int a0, .int a1, .int a2, .int a3])), (h1, .inl (cI, 2520, .inl f_911)), (h2, .inl (cI, 2520, .inl g1)), (h4, .inl (cI, 4096, .inl f_907))] := hD
        refine lv_aload_n hx hb dX0_put_84 rfl (lv_at hl 2 rfl) ?_
        refine va_get (D := (dC, dI)) (ci := 0) (v := .ref h2) (C := RX0) (T := TX0) (N := 10) hx hb hts hinX0 hown hK hP 0 rfl rfl 1 (by decide) (hts (.fieldLink RX0 15 "MayRings$Families" "orders" "[I") (List.mem_of_getElem? (i := 5) rfl)) (fun _ h9 => h9) rfl dX0_put_85 ?_
        refine lv_aload_n hx hb dX0_put_88 rfl (lv_at hl 2 rfl) ?_
        refine va_get (D := (dC, dI)) (ci := 0) (v := .int a0) (C := RX0) (T := TX0) (N := 10) hx hb hts hinX0 hown hK hP 0 rfl rfl 6 (by decide) (hts (.fieldLink RX0 30 "MayRings$Families" "count" "I") (List.mem_of_getElem? (i := 3) rfl)) (fun _ h9 => h9) rfl dX0_put_89 ?_
        refine lv_iload_n hx hb dX0_put_92 rfl (lv_at hl 4 rfl) ?_
        refine va_iast hx hb hK hP hD hS 2 1 rfl rfl (rg_in (n := 2520) (rg_mono h_910 (by decide) (by decide))) dX0_put_93 (fun H locs hP hD hS => ?_)
        obtain ⟨f_912, ef_912⟩ : ∃ f : Nat → Int32, f = upd g1 (a0 : Int32).toNatClampNeg p1 := ⟨_, rfl⟩
        rw [← ef_912] at hP hD
        replace hP : va_P (dC, dI) vwCl [(h0, .inr (0, [.ref h1, .ref h2, .ref h3, .ref h4, .ref h5, .ref h6, .int a0, .int a1, .int a2, .int a3])), (h1, .inl (cI, 2520, .inl f_911)), (h2, .inl (cI, 2520, .inl f_912)), (h4, .inl (cI, 4096, .inl f_907))] H := hP
        replace hD : va_D A [(h0, .inr (0, [.ref h1, .ref h2, .ref h3, .ref h4, .ref h5, .ref h6, .int a0, .int a1, .int a2, .int a3])), (h1, .inl (cI, 2520, .inl f_911)), (h2, .inl (cI, 2520, .inl f_912)), (h4, .inl (cI, 4096, .inl f_907))] := hD
        refine lv_aload_n hx hb dX0_put_94 rfl (lv_at hl 2 rfl) ?_
        refine lv_dup hx hb dX0_put_95 rfl ?_
        refine va_get (D := (dC, dI)) (ci := 0) (v := .int a0) (C := RX0) (T := TX0) (N := 10) hx hb hts hinX0 hown hK hP 0 rfl rfl 6 (by decide) (hts (.fieldLink RX0 30 "MayRings$Families" "count" "I") (List.mem_of_getElem? (i := 3) rfl)) (fun _ h9 => h9) rfl dX0_put_96 ?_
        refine lv_iconst (v := 1) hx hb dX0_put_99 (by decide) ?_
        refine lv_iadd hx hb dX0_put_100 ?_
        refine lv_topi (fun x_913 ex_913 => ?_)
        have hx_913 : rg (1) (2520) x_913 := by rw [ex_913]; exact rg_mono (rg_add h_910 (rg_k (x := 1) (c := 1) (by decide)) (by decide) (by decide)) (by decide) (by decide)
        have qx_913 : x_913.toInt = a0.toInt + (1) := by rw [ex_913]; exact rg_addE h_910 (rg_k (x := 1) (c := 1) (by decide)) (by decide) (by decide) trivial
        refine va_put (D := (dC, dI)) (ci := 0) (v := .int x_913) (ty := .int) (C := RX0) (T := TX0) (N := 10) hx hb hts hinX0 tyX0 tyX0_ok nmX0 hown hK hP hD hS 0 rfl rfl 6 (by decide) (hts (.fieldLink RX0 30 "MayRings$Families" "count" "I") (List.mem_of_getElem? (i := 3) rfl)) (fun _ h9 => h9) rfl (by decide +kernel) (rfl) (rfl) (Nat.le_of_ble_eq_true rfl) dX0_put_101 (fun H locs hP hD hS => ?_)
        replace hP : va_P (dC, dI) vwCl [(h0, .inr (0, [.ref h1, .ref h2, .ref h3, .ref h4, .ref h5, .ref h6, .int x_913, .int a1, .int a2, .int a3])), (h1, .inl (cI, 2520, .inl f_911)), (h2, .inl (cI, 2520, .inl f_912)), (h4, .inl (cI, 4096, .inl f_907))] H := hP
        replace hD : va_D A [(h0, .inr (0, [.ref h1, .ref h2, .ref h3, .ref h4, .ref h5, .ref h6, .int x_913, .int a1, .int a2, .int a3])), (h1, .inl (cI, 2520, .inl f_911)), (h2, .inl (cI, 2520, .inl f_912)), (h4, .inl (cI, 4096, .inl f_907))] := hD
        refine lv_aload_n hx hb dX0_put_104 rfl (lv_at hl 2 rfl) ?_
        refine lv_dup hx hb dX0_put_105 rfl ?_
        refine va_get (D := (dC, dI)) (ci := 0) (v := .int a3) (C := RX0) (T := TX0) (N := 10) hx hb hts hinX0 hown hK hP 0 rfl rfl 9 (by decide) (hts (.fieldLink RX0 40 "MayRings$Families" "union" "I") (List.mem_of_getElem? (i := 6) rfl)) (fun _ h9 => h9) rfl dX0_put_106 ?_
        refine lv_iload_n hx hb dX0_put_109 rfl (lv_at hl 3 rfl) ?_
        refine lv_ior hx hb dX0_put_110 ?_
        refine lv_topi (fun x_914 ex_914 => ?_)
        refine va_put (D := (dC, dI)) (ci := 0) (v := .int x_914) (ty := .int) (C := RX0) (T := TX0) (N := 10) hx hb hts hinX0 tyX0 tyX0_ok nmX0 hown hK hP hD hS 0 rfl rfl 9 (by decide) (hts (.fieldLink RX0 40 "MayRings$Families" "union" "I") (List.mem_of_getElem? (i := 6) rfl)) (fun _ h9 => h9) rfl (by decide +kernel) (rfl) (rfl) (Nat.le_of_ble_eq_true rfl) dX0_put_111 (fun H locs hP hD hS => ?_)
        replace hP : va_P (dC, dI) vwCl [(h0, .inr (0, [.ref h1, .ref h2, .ref h3, .ref h4, .ref h5, .ref h6, .int x_913, .int a1, .int a2, .int x_914])), (h1, .inl (cI, 2520, .inl f_911)), (h2, .inl (cI, 2520, .inl f_912)), (h4, .inl (cI, 4096, .inl f_907))] H := hP
        replace hD : va_D A [(h0, .inr (0, [.ref h1, .ref h2, .ref h3, .ref h4, .ref h5, .ref h6, .int x_913, .int a1, .int a2, .int x_914])), (h1, .inl (cI, 2520, .inl f_911)), (h2, .inl (cI, 2520, .inl f_912)), (h4, .inl (cI, 4096, .inl f_907))] := hD
        have hP9 := hP.sub (ws' := [(h0, .inr (0, [.ref h1, .ref h2, .ref h3, .ref h4, .ref h5, .ref h6, .int x_913, .int a1, .int a2, .int x_914])), (h1, .inl (cI, 2520, .inl f_911)), (h2, .inl (cI, 2520, .inl f_912)), (h4, .inl (cI, 4096, .inl f_907))]) [0, 1, 2, 3] rfl
        have hD9 := hD.sub (ws' := [(h0, .inr (0, [.ref h1, .ref h2, .ref h3, .ref h4, .ref h5, .ref h6, .int x_913, .int a1, .int a2, .int x_914])), (h1, .inl (cI, 2520, .inl f_911)), (h2, .inl (cI, 2520, .inl f_912)), (h4, .inl (cI, 4096, .inl f_907))]) [0, 1, 2, 3] (by decide) rfl
        exact W.vret hx hb hr (fun t ht hW => ⟨⟨(), rfl, trivial, ⟨x_913, x_914, f_911, f_912, f_907, (rg_mono hx_913 (by decide) (by decide)), (show nbA f_912 from nbA_upd kr0 kr1 ef_912), by rw [ht]; exact hP9, hD9⟩⟩, hS.F ht⟩) hS.2.2 dX0_put_114
    · skip
      refine lv_aload_n hx hb dX0_put_28 rfl (lv_at hl 2 rfl) ?_
      refine va_get (D := (dC, dI)) (ci := 0) (v := .ref h4) (C := RX0) (T := TX0) (N := 10) hx hb hts hinX0 hown hK hP 0 rfl rfl 3 (by decide) (hts (.fieldLink RX0 21 "MayRings$Families" "slots" "[I") (List.mem_of_getElem? (i := 2) rfl)) (fun _ h9 => h9) rfl dX0_put_29 ?_
      refine lv_iload_n hx hb dX0_put_32 rfl (lv_at hl 1 rfl) ?_
      refine va_iald hx hb hK hP 3 1 rfl rfl (rg_in (n := 4096) (rg_mono hx_860 (by decide) (by decide))) dX0_put_33 ?_
      refine tp_v (.int x_903) (congrArg Value.int (ex_903.symm)) ?_
      refine lv_iload_n hx hb dX0_put_34 rfl (lv_at hl 3 rfl) ?_
      refine lv_iconst (v := 1) hx hb dX0_put_35 (by decide) ?_
      refine lv_iadd hx hb dX0_put_36 ?_
      refine lv_topi (fun x_915 ex_915 => ?_)
      refine lv_icmp_ne (tgt := 41) hx hb dX0_put_37 (by decide) (fun c_916 => ?_) (fun c_916 => ?_)
      · skip
        refine lv_iload_n hx hb dX0_put_41 rfl (lv_at hl 1 rfl) ?_
        refine lv_iconst (v := 1) hx hb dX0_put_42 (by decide) ?_
        refine lv_iadd hx hb dX0_put_43 ?_
        refine lv_topi (fun x_917 ex_917 => ?_)
        have hx_917 : rg (1) (4096) x_917 := by rw [ex_917]; exact rg_mono (rg_add hx_860 (rg_k (x := 1) (c := 1) (by decide)) (by decide) (by decide)) (by decide) (by decide)
        have qx_917 : x_917.toInt = x_860.toInt + (1) := by rw [ex_917]; exact rg_addE hx_860 (rg_k (x := 1) (c := 1) (by decide)) (by decide) (by decide) trivial
        refine lv_sipush (v := 4095) hx hb dX0_put_44 (by decide) ?_
        refine lv_iand hx hb dX0_put_47 ?_
        refine lv_topi (fun x_918 ex_918 => ?_)
        have hx_918 : rg (0) (4095) x_918 := by rw [ex_918]; exact rg_mono (rg_andr (b := 4095) (rg_mono (rg_k (x := 4095) (c := 4095) (by decide)) (by decide) (by decide))) (by decide) (by decide)
        refine lv_istore_n (lv' := [(3, .int x_918), (4, .int x_859), (0, .ref h0), (1, .int p0), (2, .int p1)]) hx hb dX0_put_48 rfl hl (by decide) rfl (fun ls hl => ?_)
        obtain ⟨x_919, ex_919⟩ : ∃ y : Int32, y = x_859 + Int32.ofInt (1) := ⟨_, rfl⟩
        have hx_919 : rg (1) (4096) x_919 := by rw [ex_919]; exact rg_mono (rg_add h_902 (rg_k (x := Int32.ofInt (1)) (c := 1) (by decide)) (by decide) (by decide)) (by decide) (by decide)
        have qx_919 : x_919.toInt = x_859.toInt + (1) := by rw [ex_919]; exact rg_addE h_902 (rg_k (x := Int32.ofInt (1)) (c := 1) (by decide)) (by decide) (by decide) (by decide)
        refine lv_iinc (v := x_919) (lv' := [(4, .int x_919), (3, .int x_918), (0, .ref h0), (1, .int p0), (2, .int p1)]) hx hb dX0_put_49 hl (k := 1) rfl (ex_919.symm) (by decide) rfl (fun ls hl => ?_)
        clear ex_919
        refine lv_goto (tgt := 11) hx hb dX0_put_52 (by decide) ?_
        exact ih_890 (x_919, x_918) H locs ls ⟨hP.sub (ws' := [(h0, .inr (0, [.ref h1, .ref h2, .ref h3, .ref h4, .ref h5, .ref h6, .int a0, .int a1, .int a2, .int a3])), (h1, .inl (cI, 2520, .inl g0)), (h2, .inl (cI, 2520, .inl g1)), (h4, .inl (cI, 4096, .inl g3))]) [0, 1, 2, 3] rfl, hD.sub (ws' := [(h0, .inr (0, [.ref h1, .ref h2, .ref h3, .ref h4, .ref h5, .ref h6, .int a0, .int a1, .int a2, .int a3])), (h1, .inl (cI, 2520, .inl g0)), (h2, .inl (cI, 2520, .inl g1)), (h4, .inl (cI, 4096, .inl g3))]) [0, 1, 2, 3] (by decide) rfl, hS, lv_sub hl [0, 1, 2, 3, 4] rfl, (rg_mono hx_919 (by decide) (by decide)), (rg_mono hx_918 (by decide) (by decide))⟩ (by show ((4096) - x_919.toInt).toNat < ((4096) - x_859.toInt).toNat; have ha := h_902; simp only [rg] at ha; omega)
      · skip
        have hP9 := hP.sub (ws' := [(h0, .inr (0, [.ref h1, .ref h2, .ref h3, .ref h4, .ref h5, .ref h6, .int a0, .int a1, .int a2, .int a3])), (h1, .inl (cI, 2520, .inl g0)), (h2, .inl (cI, 2520, .inl g1)), (h4, .inl (cI, 4096, .inl g3))]) [0, 1, 2, 3] rfl
        have hD9 := hD.sub (ws' := [(h0, .inr (0, [.ref h1, .ref h2, .ref h3, .ref h4, .ref h5, .ref h6, .int a0, .int a1, .int a2, .int a3])), (h1, .inl (cI, 2520, .inl g0)), (h2, .inl (cI, 2520, .inl g1)), (h4, .inl (cI, 4096, .inl g3))]) [0, 1, 2, 3] (by decide) rfl
        exact W.vret hx hb hr (fun t ht hW => ⟨⟨(), rfl, trivial, ⟨a0, a3, g0, g1, g3, (rg_mono ha0 (by decide) (by decide)), kr0, by rw [ht]; exact hP9, hD9⟩⟩, hS.F ht⟩) hS.2.2 dX0_put_40
def v_s_X0_close : List Cond := Cond.code yX0_close cX0_close 6 none :: ([Cond.fieldLink RX0 91 "MayRings$Ways" "closes" "Z", Cond.fieldLink RX0 78 "MayRings$Ways" "pairs" "[I", Cond.fieldLink RX0 24 "MayRings$Families" "bits" "[I", Cond.methodLink RX0 63 yX0_put, Cond.instanceMethod yX0_put, Cond.selects RX0 yX0_put yX0_put, Cond.initialized RX0] ++ (wsX00 ++ (wsX70 ++ (v_s_X0_put ++ ([])))))
theorem k_s_X0_close : GoodIn lw_tbl v_s_X0_close := gd_c (List.mem_of_getElem? (i := 1056) (by decide +kernel)) rfl (goodIn_app (gd_c (List.mem_of_getElem? (i := 458) (by decide +kernel)) rfl (gd_c (List.mem_of_getElem? (i := 444) (by decide +kernel)) rfl (gd_c (List.mem_of_getElem? (i := 504) (by decide +kernel)) rfl (gd_c (List.mem_of_getElem? (i := 1043) (by decide +kernel)) rfl (gd_c (List.mem_of_getElem? (i := 1045) (by decide +kernel)) rfl (gd_c (List.mem_of_getElem? (i := 55) (by decide +kernel)) rfl (gd_c (List.mem_of_getElem? (i := 143) (by decide +kernel)) rfl (gd_nil)))))))) (goodIn_app kfX0 (goodIn_app kfX7 (goodIn_app k_s_X0_put (gd_nil)))))
set_option maxHeartbeats 2000000 in
set_option maxRecDepth 100000 in
theorem c_s_X0_close (l : Launch) (dC : Nat → ClassId) (dI : Nat → Nat → Nat) (cB cI cJ cZ cP : ClassId) (h0 : Nat) (h1 : Nat) (g0 : Nat → Int32) (h2 : Nat) (g1 : Nat → Int32) (h3 : Nat) (h4 : Nat) (g3 : Nat → Int32) (h5 : Nat) (g4 : Nat → Int32) (h6 : Nat) (a0 : Int32) (ha0 : rg (0) (2520) a0) (a1 : Int32) (a2 : Int32) (a3 : Int32) (h7 : Nat) (h8 : Nat) (h9 : Nat) (g7 : Nat → Int32) (hg7 : rgA (0) (511) g7) (h10 : Nat) (h11 : Nat) (h12 : Nat) (h13 : Nat) (a4 : Int32) (a5 : Int32) (a6 : Int32) (ha6 : rg (0) (1) a6) (a7 : Int32) (a8 : Int32) (a9 : Int32) (a10 : Int32) (a11 : Int32) (p1 : Int32) (hp1 : rg (0) (8) p1) (p2 : Int32) (p3 : Int32) (kr0 : nbA g1) (kr1 : nb p3) (sz : Nat) : Met l yX0_close v_s_X0_close ({ frames := 1, cells := 0, slots := 0, locals := 24 }) (va_Pc [.ref h0, .ref h7, .int p1, .int p2, .int p3] (fun U => U.heap.size = sz ∧ va_P (dC, dI) vwCl [(h0, .inr (0, [.ref h1, .ref h2, .ref h3, .ref h4, .ref h5, .ref h6, .int a0, .int a1, .int a2, .int a3])), (h1, .inl (cI, 2520, .inl g0)), (h2, .inl (cI, 2520, .inl g1)), (h4, .inl (cI, 4096, .inl g3)), (h5, .inl (cI, 81, .inl g4)), (h7, .inr (7, [.ref h8, .ref h9, .ref h10, .ref h11, .ref h12, .ref h13, .int a4, .int a5, .int a6, .int a7, .int a8, .int a9, .int a10, .int a11])), (h9, .inl (cI, 9, .inl g7))] U.heap ∧ va_K (dC, dI) vwCl (ty5 cB cI cJ cZ cP) U ∧ va_D (fun _ => True) [(h0, .inr (0, [.ref h1, .ref h2, .ref h3, .ref h4, .ref h5, .ref h6, .int a0, .int a1, .int a2, .int a3])), (h1, .inl (cI, 2520, .inl g0)), (h2, .inl (cI, 2520, .inl g1)), (h4, .inl (cI, 4096, .inl g3)), (h5, .inl (cI, 81, .inl g4)), (h7, .inr (7, [.ref h8, .ref h9, .ref h10, .ref h11, .ref h12, .ref h13, .int a4, .int a5, .int a6, .int a7, .int a8, .int a9, .int a10, .int a11])), (h9, .inl (cI, 9, .inl g7))])) (va_Qv (fun _ : Unit => True) (fun _ t => ∃ (z0 : Int32) (z1 : Int32) (z2 : Nat → Int32) (z3 : Nat → Int32) (z4 : Nat → Int32), rg (0) (2520) z0 ∧ (nbA z3) ∧ va_P (dC, dI) vwCl [(h0, .inr (0, [.ref h1, .ref h2, .ref h3, .ref h4, .ref h5, .ref h6, .int z0, .int a1, .int a2, .int z1])), (h1, .inl (cI, 2520, .inl z2)), (h2, .inl (cI, 2520, .inl z3)), (h4, .inl (cI, 4096, .inl z4)), (h5, .inl (cI, 81, .inl g4)), (h7, .inr (7, [.ref h8, .ref h9, .ref h10, .ref h11, .ref h12, .ref h13, .int a4, .int a5, .int a6, .int a7, .int a8, .int a9, .int a10, .int a11])), (h9, .inl (cI, 9, .inl g7))] t.heap ∧ va_D (va_A [(h0, .inr (0, [.ref h1, .ref h2, .ref h3, .ref h4, .ref h5, .ref h6, .int a0, .int a1, .int a2, .int a3])), (h1, .inl (cI, 2520, .inl g0)), (h2, .inl (cI, 2520, .inl g1)), (h4, .inl (cI, 4096, .inl g3)), (h5, .inl (cI, 81, .inl g4)), (h7, .inr (7, [.ref h8, .ref h9, .ref h10, .ref h11, .ref h12, .ref h13, .int a4, .int a5, .int a6, .int a7, .int a8, .int a9, .int a10, .int a11])), (h9, .inl (cI, 9, .inl g7))] sz) [(h0, .inr (0, [.ref h1, .ref h2, .ref h3, .ref h4, .ref h5, .ref h6, .int z0, .int a1, .int a2, .int z1])), (h1, .inl (cI, 2520, .inl z2)), (h2, .inl (cI, 2520, .inl z3)), (h4, .inl (cI, 4096, .inl z4)), (h5, .inl (cI, 81, .inl g4)), (h7, .inr (7, [.ref h8, .ref h9, .ref h10, .ref h11, .ref h12, .ref h13, .int a4, .int a5, .int a6, .int a7, .int a8, .int a9, .int a10, .int a11])), (h9, .inl (cI, 9, .inl g7))]) (va_A [(h0, .inr (0, [.ref h1, .ref h2, .ref h3, .ref h4, .ref h5, .ref h6, .int a0, .int a1, .int a2, .int a3])), (h1, .inl (cI, 2520, .inl g0)), (h2, .inl (cI, 2520, .inl g1)), (h4, .inl (cI, 4096, .inl g3)), (h5, .inl (cI, 81, .inl g4)), (h7, .inr (7, [.ref h8, .ref h9, .ref h10, .ref h11, .ref h12, .ref h13, .int a4, .int a5, .int a6, .int a7, .int a8, .int a9, .int a10, .int a11])), (h9, .inl (cI, 9, .inl g7))] sz)) 0 0 (va_A [(h0, .inr (0, [.ref h1, .ref h2, .ref h3, .ref h4, .ref h5, .ref h6, .int a0, .int a1, .int a2, .int a3])), (h1, .inl (cI, 2520, .inl g0)), (h2, .inl (cI, 2520, .inl g1)), (h4, .inl (cI, 4096, .inl g3)), (h5, .inl (cI, 81, .inl g4)), (h7, .inr (7, [.ref h8, .ref h9, .ref h10, .ref h11, .ref h12, .ref h13, .int a4, .int a5, .int a6, .int a7, .int a8, .int a9, .int a10, .int a11])), (h9, .inl (cI, 9, .inl g7))] sz) := by
  refine Met.ofW (cc := cX0_close) (maxL := 6) (ret := none) (by decide) rfl ?_
  intro p e s m args below meth c s₁ B hml hv
  obtain ⟨rfl, hsz, hP, hK, hD0⟩ := hv
  have hx := B.exec
  have hb := B.bytes
  have hr := B.returns
  have hts := atoms_spec (ws := v_s_X0_close) B.pre
  have hown : s.vm.findClass RX0 = some m.cls := findClass_of_methodNamed B.named
  have hlocks := B.notSynchronized
  have hinX0 : ∀ w ∈ wsX00, w ∈ v_s_X0_close := fun _ h => List.mem_cons_of_mem _ (List.mem_append_right _ (List.mem_append_left _ h))
  have hinX7 : ∀ w ∈ wsX70, w ∈ v_s_X0_close := fun _ h => List.mem_cons_of_mem _ (List.mem_append_right _ (List.mem_append_right _ (List.mem_append_left _ h)))
  subst hsz
  have hD := hD0.self (sz := s.heap.size)
  generalize hAe : va_A [(h0, .inr (0, [.ref h1, .ref h2, .ref h3, .ref h4, .ref h5, .ref h6, .int a0, .int a1, .int a2, .int a3])), (h1, .inl (cI, 2520, .inl g0)), (h2, .inl (cI, 2520, .inl g1)), (h4, .inl (cI, 4096, .inl g3)), (h5, .inl (cI, 81, .inl g4)), (h7, .inr (7, [.ref h8, .ref h9, .ref h10, .ref h11, .ref h12, .ref h13, .int a4, .int a5, .int a6, .int a7, .int a8, .int a9, .int a10, .int a11])), (h9, .inl (cI, 9, .inl g7))] s.heap.size = A at hD ⊢
  have hA : ∀ q : Nat, s.heap.size ≤ q → A q := fun q h => by rw [← hAe]; exact Or.inr h
  have hP : va_P (dC, dI) vwCl [(h0, .inr (0, [.ref h1, .ref h2, .ref h3, .ref h4, .ref h5, .ref h6, .int a0, .int a1, .int a2, .int a3])), (h1, .inl (cI, 2520, .inl g0)), (h2, .inl (cI, 2520, .inl g1)), (h4, .inl (cI, 4096, .inl g3)), (h5, .inl (cI, 81, .inl g4)), (h7, .inr (7, [.ref h8, .ref h9, .ref h10, .ref h11, .ref h12, .ref h13, .int a4, .int a5, .int a6, .int a7, .int a8, .int a9, .int a10, .int a11])), (h9, .inl (cI, 9, .inl g7))] s.heap := hP
  have hl := lv_entry ([.ref h0, .ref h7, .int p1, .int p2, .int p3]) (n := 6) (Nat.le_of_ble_eq_true rfl)
  rw [lg_entry_eq]
  generalize (lg_sl ([.ref h0, .ref h7, .int p1, .int p2, .int p3]) ++ List.replicate (6 - (lg_sl ([.ref h0, .ref h7, .int p1, .int p2, .int p3])).length) Slot.unset).toArray = ls at hl ⊢
  have hl : lv_has ls 6 [(0, .ref h0), (1, .ref h7), (2, .int p1), (3, .int p2), (4, .int p3)] := hl
  refine W_gen (A := A) hP (fun H locs hP hS => ?_)
  refine lv_iload hx hb dX0_close_0 (lv_at hl 4 rfl) ?_
  refine lv_bipush (v := 15) hx hb dX0_close_2 (by decide) ?_
  refine lv_iand hx hb dX0_close_4 ?_
  refine lv_topi (fun x_1 ex_1 => ?_)
  have hx_1 : rg (0) (15) x_1 := by rw [ex_1]; exact rg_mono (rg_andr (b := 15) (rg_mono (rg_k (x := 15) (c := 15) (by decide)) (by decide) (by decide))) (by decide) (by decide)
  refine lv_istore (lv' := [(5, .int x_1), (0, .ref h0), (1, .ref h7), (2, .int p1), (3, .int p2), (4, .int p3)]) hx hb dX0_close_5 hl (by decide) rfl (fun ls hl => ?_)
  refine lv_aload_n hx hb dX0_close_7 rfl (lv_at hl 2 rfl) ?_
  refine va_get (D := (dC, dI)) (ci := 7) (v := .int a6) (C := RX7) (T := TX7) (N := 14) hx hb hts hinX7 hown hK hP 5 rfl rfl 8 (by decide) (hts (.fieldLink RX0 91 "MayRings$Ways" "closes" "Z") (List.mem_of_getElem? (i := 1) rfl)) (fun _ h9 => h9) rfl dX0_close_8 ?_
  refine lv_if_ne (tgt := 24) hx hb dX0_close_11 (by decide) (fun c_2 => ?_) (fun c_2 => ?_)
  · skip
    have h_3 : rg (1) (1) a6 := by have ha := ha6; have hb_ := (rg_k (x := 0) (c := 0) (by decide)); simp only [rg, fa_lt, fa_le, fa_eq, (by decide : (0 : Int32).toInt = 0)] at ha hb_ c_2; simp only [rg]; omega
    refine lv_iload hx hb dX0_close_24 (lv_at hl 0 rfl) ?_
    refine lv_bipush (v := 9) hx hb dX0_close_26 (by decide) ?_
    refine lv_icmp_ge (tgt := 66) hx hb dX0_close_28 (by decide) (fun c_4 => ?_) (fun c_4 => ?_)
    · skip
      have h_5 : rg (9) (15) x_1 := by have ha := hx_1; have hb_ := (rg_k (x := 9) (c := 9) (by decide)); simp only [rg, fa_lt, fa_le, fa_eq, (by decide : (9 : Int32).toInt = 9)] at ha hb_ c_4; simp only [rg]; omega
      have hP9 := hP.sub (ws' := [(h0, .inr (0, [.ref h1, .ref h2, .ref h3, .ref h4, .ref h5, .ref h6, .int a0, .int a1, .int a2, .int a3])), (h1, .inl (cI, 2520, .inl g0)), (h2, .inl (cI, 2520, .inl g1)), (h4, .inl (cI, 4096, .inl g3)), (h5, .inl (cI, 81, .inl g4)), (h7, .inr (7, [.ref h8, .ref h9, .ref h10, .ref h11, .ref h12, .ref h13, .int a4, .int a5, .int a6, .int a7, .int a8, .int a9, .int a10, .int a11])), (h9, .inl (cI, 9, .inl g7))]) [0, 1, 2, 3, 4, 5, 6] rfl
      have hD9 := hD.sub (ws' := [(h0, .inr (0, [.ref h1, .ref h2, .ref h3, .ref h4, .ref h5, .ref h6, .int a0, .int a1, .int a2, .int a3])), (h1, .inl (cI, 2520, .inl g0)), (h2, .inl (cI, 2520, .inl g1)), (h4, .inl (cI, 4096, .inl g3)), (h5, .inl (cI, 81, .inl g4)), (h7, .inr (7, [.ref h8, .ref h9, .ref h10, .ref h11, .ref h12, .ref h13, .int a4, .int a5, .int a6, .int a7, .int a8, .int a9, .int a10, .int a11])), (h9, .inl (cI, 9, .inl g7))]) [0, 1, 2, 3, 4, 5, 6] (by decide) rfl
      exact W.vret hx hb hr (fun t ht hW => ⟨⟨(), rfl, trivial, ⟨a0, a3, g0, g1, g3, (rg_mono ha0 (by decide) (by decide)), kr0, by rw [ht]; exact hP9, hD9⟩⟩, hS.F ht⟩) hS.2.2 dX0_close_66
    · skip
      have h_6 : rg (0) (8) x_1 := by have ha := hx_1; have hb_ := (rg_k (x := 9) (c := 9) (by decide)); simp only [rg, fa_lt, fa_le, fa_eq, (by decide : (9 : Int32).toInt = 9)] at ha hb_ c_4; simp only [rg]; omega
      refine lv_aload_n hx hb dX0_close_31 rfl (lv_at hl 2 rfl) ?_
      refine va_get (D := (dC, dI)) (ci := 7) (v := .ref h9) (C := RX7) (T := TX7) (N := 14) hx hb hts hinX7 hown hK hP 5 rfl rfl 1 (by decide) (hts (.fieldLink RX0 78 "MayRings$Ways" "pairs" "[I") (List.mem_of_getElem? (i := 2) rfl)) (fun _ h9 => h9) rfl dX0_close_32 ?_
      refine lv_iload_n hx hb dX0_close_35 rfl (lv_at hl 3 rfl) ?_
      refine va_iald hx hb hK hP 6 1 rfl rfl (rg_in (n := 9) (rg_mono hp1 (by decide) (by decide))) dX0_close_36 ?_
      refine lv_topi (fun x_7 ex_7 => ?_)
      have hx_7 : rg (0) (511) x_7 := by rw [ex_7]; exact rg_mono (hg7 _) (by decide) (by decide)
      refine lv_iload hx hb dX0_close_37 (lv_at hl 0 rfl) ?_
      refine lv_ishr hx hb dX0_close_39 ?_
      refine lv_topi (fun x_8 ex_8 => ?_)
      have hx_8 : rg (0) (511) x_8 := by rw [ex_8]; exact rg_mono (rg_shr (b := 511) (rg_mono hx_7 (by decide) (by decide))) (by decide) (by decide)
      have kx_8_0 : rg 1 2147483647 x_8 → rg 1 (511) x_7 := fun hq => rg_shrP hx_7 (ex_8 ▸ hq)
      refine lv_iconst (v := 1) hx hb dX0_close_40 (by decide) ?_
      refine lv_iand hx hb dX0_close_41 ?_
      refine lv_topi (fun x_9 ex_9 => ?_)
      have hx_9 : rg (0) (1) x_9 := by rw [ex_9]; exact rg_mono (rg_andr (b := 1) (rg_mono (rg_k (x := 1) (c := 1) (by decide)) (by decide) (by decide))) (by decide) (by decide)
      have kx_9_0 : rg 1 2147483647 x_9 → rg 1 (511) x_8 := fun hq => rg_andP hx_8 (ex_9 ▸ hq)
      refine lv_iconst (v := 1) hx hb dX0_close_42 (by decide) ?_
      refine lv_icmp_ne (tgt := 66) hx hb dX0_close_43 (by decide) (fun c_10 => ?_) (fun c_10 => ?_)
      · skip
        have h_11 : rg (0) (0) x_9 := by have ha := hx_9; have hb_ := (rg_k (x := 1) (c := 1) (by decide)); simp only [rg, fa_lt, fa_le, fa_eq, (by decide : (1 : Int32).toInt = 1)] at ha hb_ c_10; simp only [rg]; omega
        have hP9 := hP.sub (ws' := [(h0, .inr (0, [.ref h1, .ref h2, .ref h3, .ref h4, .ref h5, .ref h6, .int a0, .int a1, .int a2, .int a3])), (h1, .inl (cI, 2520, .inl g0)), (h2, .inl (cI, 2520, .inl g1)), (h4, .inl (cI, 4096, .inl g3)), (h5, .inl (cI, 81, .inl g4)), (h7, .inr (7, [.ref h8, .ref h9, .ref h10, .ref h11, .ref h12, .ref h13, .int a4, .int a5, .int a6, .int a7, .int a8, .int a9, .int a10, .int a11])), (h9, .inl (cI, 9, .inl g7))]) [0, 1, 2, 3, 4, 5, 6] rfl
        have hD9 := hD.sub (ws' := [(h0, .inr (0, [.ref h1, .ref h2, .ref h3, .ref h4, .ref h5, .ref h6, .int a0, .int a1, .int a2, .int a3])), (h1, .inl (cI, 2520, .inl g0)), (h2, .inl (cI, 2520, .inl g1)), (h4, .inl (cI, 4096, .inl g3)), (h5, .inl (cI, 81, .inl g4)), (h7, .inr (7, [.ref h8, .ref h9, .ref h10, .ref h11, .ref h12, .ref h13, .int a4, .int a5, .int a6, .int a7, .int a8, .int a9, .int a10, .int a11])), (h9, .inl (cI, 9, .inl g7))]) [0, 1, 2, 3, 4, 5, 6] (by decide) rfl
        exact W.vret hx hb hr (fun t ht hW => ⟨⟨(), rfl, trivial, ⟨a0, a3, g0, g1, g3, (rg_mono ha0 (by decide) (by decide)), kr0, by rw [ht]; exact hP9, hD9⟩⟩, hS.F ht⟩) hS.2.2 dX0_close_66
      · skip
        have h_12 : rg (1) (1) x_9 := by have ha := hx_9; have hb_ := (rg_k (x := 1) (c := 1) (by decide)); simp only [rg, fa_lt, fa_le, fa_eq, (by decide : (1 : Int32).toInt = 1)] at ha hb_ c_10; simp only [rg]; omega
        have h_13 : rg (1) (511) x_8 := rg_meet hx_8 (kx_9_0 (rg_mono h_12 (by decide) (by decide))) (by decide) (by decide)
        have h_14 : rg (1) (511) x_7 := rg_meet hx_7 (kx_8_0 (rg_mono h_13 (by decide) (by decide))) (by decide) (by decide)
        refine lv_aload_n hx hb dX0_close_46 rfl (lv_at hl 1 rfl) ?_
        refine lv_iload_n hx hb dX0_close_47 rfl (lv_at hl 4 rfl) ?_
        refine lv_aload_n hx hb dX0_close_48 rfl (lv_at hl 1 rfl) ?_
        refine va_get (D := (dC, dI)) (ci := 0) (v := .ref h5) (C := RX0) (T := TX0) (N := 10) hx hb hts hinX0 hown hK hP 0 rfl rfl 4 (by decide) (hts (.fieldLink RX0 24 "MayRings$Families" "bits" "[I") (List.mem_of_getElem? (i := 3) rfl)) (fun _ h9 => h9) rfl dX0_close_49 ?_
        refine lv_iload_n hx hb dX0_close_52 rfl (lv_at hl 3 rfl) ?_
        refine lv_bipush (v := 9) hx hb dX0_close_53 (by decide) ?_
        refine lv_imul hx hb dX0_close_55 ?_
        refine lv_topi (fun x_15 ex_15 => ?_)
        have hx_15 : rg (0) (72) x_15 := by rw [ex_15]; exact rg_mono (rg_mul hp1 (rg_k (x := 9) (c := 9) (by decide)) (by decide) (by decide) (by decide)) (by decide) (by decide)
        refine lv_iload hx hb dX0_close_56 (lv_at hl 0 rfl) ?_
        refine lv_iadd hx hb dX0_close_58 ?_
        refine lv_topi (fun x_16 ex_16 => ?_)
        have hx_16 : rg (0) (80) x_16 := by rw [ex_16]; exact rg_mono (rg_add hx_15 h_6 (by decide) (by decide)) (by decide) (by decide)
        have qx_16 : x_16.toInt = x_15.toInt + x_1.toInt := by rw [ex_16]; exact rg_addQ hx_15 h_6 (by decide) (by decide)
        refine va_iald hx hb hK hP 4 1 rfl rfl (rg_in (n := 81) (rg_mono hx_16 (by decide) (by decide))) dX0_close_59 ?_
        refine lv_topi (fun x_17 ex_17 => ?_)
        refine lv_ior hx hb dX0_close_60 ?_
        refine lv_topi (fun x_18 ex_18 => ?_)
        refine lv_iload hx hb dX0_close_61 (lv_at hl 5 rfl) ?_
        have hPc := hP.sub (ws' := [(h0, .inr (0, [.ref h1, .ref h2, .ref h3, .ref h4, .ref h5, .ref h6, .int a0, .int a1, .int a2, .int a3])), (h1, .inl (cI, 2520, .inl g0)), (h2, .inl (cI, 2520, .inl g1)), (h4, .inl (cI, 4096, .inl g3))]) [0, 1, 2, 3] rfl
        have hDc := hD.sub (ws' := [(h0, .inr (0, [.ref h1, .ref h2, .ref h3, .ref h4, .ref h5, .ref h6, .int a0, .int a1, .int a2, .int a3])), (h1, .inl (cI, 2520, .inl g0)), (h2, .inl (cI, 2520, .inl g1)), (h4, .inl (cI, 4096, .inl g3))]) [0, 1, 2, 3] (by decide) rfl
        have hFc := va_free (wc := [(h0, .inr (0, [.ref h1, .ref h2, .ref h3, .ref h4, .ref h5, .ref h6, .int a0, .int a1, .int a2, .int a3])), (h1, .inl (cI, 2520, .inl g0)), (h2, .inl (cI, 2520, .inl g1)), (h4, .inl (cI, 4096, .inl g3))]) hD hS hA [0, 1, 2, 3] rfl
        refine va_callv (va_runV (As := [.int x_18, .int p3]) (rest := []) ⟨hx, hb, hml, hown, hts⟩ (c_s_X0_put l dC dI cB cI cJ cZ cP h0 h1 g0 h2 g1 h3 h4 g3 h5 h6 a0 (rg_mono ha0 (by decide) (by decide)) a1 a2 a3 x_18 p3 kr0 kr1 H.size) (cwV 2 hts (gd_V (List.mem_of_getElem? (i := 4) rfl) (List.mem_of_getElem? (i := 5) rfl) (List.mem_of_getElem? (i := 6) rfl) (List.mem_of_getElem? (i := 7) rfl) (gd_mono k_s_X0_put (fun _ h => List.mem_cons_of_mem _ (List.mem_append_right _ (List.mem_append_right _ (List.mem_append_right _ (List.mem_append_left _ h))))))) rfl rfl rfl (by decide +kernel) ⟨Nat.le_of_ble_eq_true rfl, Nat.le_of_ble_eq_true rfl⟩) ⟨fun a U g mk q => by obtain ⟨q0, q1, qP, qK, qD⟩ := q; exact ⟨q0, q1, qP, va_K.moved (u := U) (U := U.calling g mk a) (Vm.Alike.refl U.vm) qK, qD⟩, va_recv hK hPc (ci := 0) (q0 := 0) rfl rfl, fun U hU hW => ⟨rfl, by rw [hU], by rw [hU]; exact hPc, va_K.moved hW.alike hK, hDc.weaken (fun _ _ _ _ => trivial)⟩⟩ rfl rfl hl.1 rfl (lv_room (Nat.le_of_ble_eq_true rfl)) dX0_close_63 ⟨Nat.le_of_ble_eq_true rfl, Nat.le_of_ble_eq_true rfl⟩) hS (fun q _ h => hFc q h) hFc (fun u t H1 locs ht hvm hw hB hz1 hk1 hS => ?_)
        obtain ⟨x_20, x_21, f_22, f_23, f_24, hx_20, k_25, hP1, hD1⟩ := hB
        rw [ht] at hP1
        obtain ⟨hP, hD⟩ := va_join (wr := [(h5, .inl (cI, 81, .inl g4)), (h7, .inr (7, [.ref h8, .ref h9, .ref h10, .ref h11, .ref h12, .ref h13, .int a4, .int a5, .int a6, .int a7, .int a8, .int a9, .int a10, .int a11])), (h9, .inl (cI, 9, .inl g7))]) (w1 := [(h0, .inr (0, [.ref h1, .ref h2, .ref h3, .ref h4, .ref h5, .ref h6, .int x_20, .int a1, .int a2, .int x_21])), (h1, .inl (cI, 2520, .inl f_22)), (h2, .inl (cI, 2520, .inl f_23)), (h4, .inl (cI, 4096, .inl f_24))]) hP hD [0, 1, 2, 3] [4, 5, 6] rfl rfl (by decide) (by decide) hk1 hFc hP1 hD1
        generalize H1 = H at hP hS ⊢
        replace hP : va_P (dC, dI) vwCl [(h5, .inl (cI, 81, .inl g4)), (h7, .inr (7, [.ref h8, .ref h9, .ref h10, .ref h11, .ref h12, .ref h13, .int a4, .int a5, .int a6, .int a7, .int a8, .int a9, .int a10, .int a11])), (h9, .inl (cI, 9, .inl g7)), (h0, .inr (0, [.ref h1, .ref h2, .ref h3, .ref h4, .ref h5, .ref h6, .int x_20, .int a1, .int a2, .int x_21])), (h1, .inl (cI, 2520, .inl f_22)), (h2, .inl (cI, 2520, .inl f_23)), (h4, .inl (cI, 4096, .inl f_24))] H := hP
        replace hD : va_D A [(h5, .inl (cI, 81, .inl g4)), (h7, .inr (7, [.ref h8, .ref h9, .ref h10, .ref h11, .ref h12, .ref h13, .int a4, .int a5, .int a6, .int a7, .int a8, .int a9, .int a10, .int a11])), (h9, .inl (cI, 9, .inl g7)), (h0, .inr (0, [.ref h1, .ref h2, .ref h3, .ref h4, .ref h5, .ref h6, .int x_20, .int a1, .int a2, .int x_21])), (h1, .inl (cI, 2520, .inl f_22)), (h2, .inl (cI, 2520, .inl f_23)), (h4, .inl (cI, 4096, .inl f_24))] := hD
        have hP9 := hP.sub (ws' := [(h0, .inr (0, [.ref h1, .ref h2, .ref h3, .ref h4, .ref h5, .ref h6, .int x_20, .int a1, .int a2, .int x_21])), (h1, .inl (cI, 2520, .inl f_22)), (h2, .inl (cI, 2520, .inl f_23)), (h4, .inl (cI, 4096, .inl f_24)), (h5, .inl (cI, 81, .inl g4)), (h7, .inr (7, [.ref h8, .ref h9, .ref h10, .ref h11, .ref h12, .ref h13, .int a4, .int a5, .int a6, .int a7, .int a8, .int a9, .int a10, .int a11])), (h9, .inl (cI, 9, .inl g7))]) [3, 4, 5, 6, 0, 1, 2] rfl
        have hD9 := hD.sub (ws' := [(h0, .inr (0, [.ref h1, .ref h2, .ref h3, .ref h4, .ref h5, .ref h6, .int x_20, .int a1, .int a2, .int x_21])), (h1, .inl (cI, 2520, .inl f_22)), (h2, .inl (cI, 2520, .inl f_23)), (h4, .inl (cI, 4096, .inl f_24)), (h5, .inl (cI, 81, .inl g4)), (h7, .inr (7, [.ref h8, .ref h9, .ref h10, .ref h11, .ref h12, .ref h13, .int a4, .int a5, .int a6, .int a7, .int a8, .int a9, .int a10, .int a11])), (h9, .inl (cI, 9, .inl g7))]) [3, 4, 5, 6, 0, 1, 2] (by decide) rfl
        exact W.vret hx hb hr (fun t ht hW => ⟨⟨(), rfl, trivial, ⟨x_20, x_21, f_22, f_23, f_24, (rg_mono hx_20 (by decide) (by decide)), k_25, by rw [ht]; exact hP9, hD9⟩⟩, hS.F ht⟩) hS.2.2 dX0_close_66
  · skip
    have h_26 : rg (0) (0) a6 := by have ha := ha6; have hb_ := (rg_k (x := 0) (c := 0) (by decide)); simp only [rg, fa_lt, fa_le, fa_eq, (by decide : (0 : Int32).toInt = 0)] at ha hb_ c_2; simp only [rg]; omega
    refine lv_aload_n hx hb dX0_close_14 rfl (lv_at hl 1 rfl) ?_
    refine lv_iload_n hx hb dX0_close_15 rfl (lv_at hl 4 rfl) ?_
    refine lv_iload hx hb dX0_close_16 (lv_at hl 5 rfl) ?_
    have hPc := hP.sub (ws' := [(h0, .inr (0, [.ref h1, .ref h2, .ref h3, .ref h4, .ref h5, .ref h6, .int a0, .int a1, .int a2, .int a3])), (h1, .inl (cI, 2520, .inl g0)), (h2, .inl (cI, 2520, .inl g1)), (h4, .inl (cI, 4096, .inl g3))]) [0, 1, 2, 3] rfl
    have hDc := hD.sub (ws' := [(h0, .inr (0, [.ref h1, .ref h2, .ref h3, .ref h4, .ref h5, .ref h6, .int a0, .int a1, .int a2, .int a3])), (h1, .inl (cI, 2520, .inl g0)), (h2, .inl (cI, 2520, .inl g1)), (h4, .inl (cI, 4096, .inl g3))]) [0, 1, 2, 3] (by decide) rfl
    have hFc := va_free (wc := [(h0, .inr (0, [.ref h1, .ref h2, .ref h3, .ref h4, .ref h5, .ref h6, .int a0, .int a1, .int a2, .int a3])), (h1, .inl (cI, 2520, .inl g0)), (h2, .inl (cI, 2520, .inl g1)), (h4, .inl (cI, 4096, .inl g3))]) hD hS hA [0, 1, 2, 3] rfl
    refine va_callv (va_runV (As := [.int p2, .int p3]) (rest := []) ⟨hx, hb, hml, hown, hts⟩ (c_s_X0_put l dC dI cB cI cJ cZ cP h0 h1 g0 h2 g1 h3 h4 g3 h5 h6 a0 (rg_mono ha0 (by decide) (by decide)) a1 a2 a3 p2 p3 kr0 kr1 H.size) (cwV 2 hts (gd_V (List.mem_of_getElem? (i := 4) rfl) (List.mem_of_getElem? (i := 5) rfl) (List.mem_of_getElem? (i := 6) rfl) (List.mem_of_getElem? (i := 7) rfl) (gd_mono k_s_X0_put (fun _ h => List.mem_cons_of_mem _ (List.mem_append_right _ (List.mem_append_right _ (List.mem_append_right _ (List.mem_append_left _ h))))))) rfl rfl rfl (by decide +kernel) ⟨Nat.le_of_ble_eq_true rfl, Nat.le_of_ble_eq_true rfl⟩) ⟨fun a U g mk q => by obtain ⟨q0, q1, qP, qK, qD⟩ := q; exact ⟨q0, q1, qP, va_K.moved (u := U) (U := U.calling g mk a) (Vm.Alike.refl U.vm) qK, qD⟩, va_recv hK hPc (ci := 0) (q0 := 0) rfl rfl, fun U hU hW => ⟨rfl, by rw [hU], by rw [hU]; exact hPc, va_K.moved hW.alike hK, hDc.weaken (fun _ _ _ _ => trivial)⟩⟩ rfl rfl hl.1 rfl (lv_room (Nat.le_of_ble_eq_true rfl)) dX0_close_18 ⟨Nat.le_of_ble_eq_true rfl, Nat.le_of_ble_eq_true rfl⟩) hS (fun q _ h => hFc q h) hFc (fun u t H1 locs ht hvm hw hB hz1 hk1 hS => ?_)
    obtain ⟨x_28, x_29, f_30, f_31, f_32, hx_28, k_33, hP1, hD1⟩ := hB
    rw [ht] at hP1
    obtain ⟨hP, hD⟩ := va_join (wr := [(h5, .inl (cI, 81, .inl g4)), (h7, .inr (7, [.ref h8, .ref h9, .ref h10, .ref h11, .ref h12, .ref h13, .int a4, .int a5, .int a6, .int a7, .int a8, .int a9, .int a10, .int a11])), (h9, .inl (cI, 9, .inl g7))]) (w1 := [(h0, .inr (0, [.ref h1, .ref h2, .ref h3, .ref h4, .ref h5, .ref h6, .int x_28, .int a1, .int a2, .int x_29])), (h1, .inl (cI, 2520, .inl f_30)), (h2, .inl (cI, 2520, .inl f_31)), (h4, .inl (cI, 4096, .inl f_32))]) hP hD [0, 1, 2, 3] [4, 5, 6] rfl rfl (by decide) (by decide) hk1 hFc hP1 hD1
    generalize H1 = H at hP hS ⊢
    replace hP : va_P (dC, dI) vwCl [(h5, .inl (cI, 81, .inl g4)), (h7, .inr (7, [.ref h8, .ref h9, .ref h10, .ref h11, .ref h12, .ref h13, .int a4, .int a5, .int a6, .int a7, .int a8, .int a9, .int a10, .int a11])), (h9, .inl (cI, 9, .inl g7)), (h0, .inr (0, [.ref h1, .ref h2, .ref h3, .ref h4, .ref h5, .ref h6, .int x_28, .int a1, .int a2, .int x_29])), (h1, .inl (cI, 2520, .inl f_30)), (h2, .inl (cI, 2520, .inl f_31)), (h4, .inl (cI, 4096, .inl f_32))] H := hP
    replace hD : va_D A [(h5, .inl (cI, 81, .inl g4)), (h7, .inr (7, [.ref h8, .ref h9, .ref h10, .ref h11, .ref h12, .ref h13, .int a4, .int a5, .int a6, .int a7, .int a8, .int a9, .int a10, .int a11])), (h9, .inl (cI, 9, .inl g7)), (h0, .inr (0, [.ref h1, .ref h2, .ref h3, .ref h4, .ref h5, .ref h6, .int x_28, .int a1, .int a2, .int x_29])), (h1, .inl (cI, 2520, .inl f_30)), (h2, .inl (cI, 2520, .inl f_31)), (h4, .inl (cI, 4096, .inl f_32))] := hD
    refine lv_goto (tgt := 66) hx hb dX0_close_21 (by decide) ?_
    have hP9 := hP.sub (ws' := [(h0, .inr (0, [.ref h1, .ref h2, .ref h3, .ref h4, .ref h5, .ref h6, .int x_28, .int a1, .int a2, .int x_29])), (h1, .inl (cI, 2520, .inl f_30)), (h2, .inl (cI, 2520, .inl f_31)), (h4, .inl (cI, 4096, .inl f_32)), (h5, .inl (cI, 81, .inl g4)), (h7, .inr (7, [.ref h8, .ref h9, .ref h10, .ref h11, .ref h12, .ref h13, .int a4, .int a5, .int a6, .int a7, .int a8, .int a9, .int a10, .int a11])), (h9, .inl (cI, 9, .inl g7))]) [3, 4, 5, 6, 0, 1, 2] rfl
    have hD9 := hD.sub (ws' := [(h0, .inr (0, [.ref h1, .ref h2, .ref h3, .ref h4, .ref h5, .ref h6, .int x_28, .int a1, .int a2, .int x_29])), (h1, .inl (cI, 2520, .inl f_30)), (h2, .inl (cI, 2520, .inl f_31)), (h4, .inl (cI, 4096, .inl f_32)), (h5, .inl (cI, 81, .inl g4)), (h7, .inr (7, [.ref h8, .ref h9, .ref h10, .ref h11, .ref h12, .ref h13, .int a4, .int a5, .int a6, .int a7, .int a8, .int a9, .int a10, .int a11])), (h9, .inl (cI, 9, .inl g7))]) [3, 4, 5, 6, 0, 1, 2] (by decide) rfl
    exact W.vret hx hb hr (fun t ht hW => ⟨⟨(), rfl, trivial, ⟨x_28, x_29, f_30, f_31, f_32, (rg_mono hx_28 (by decide) (by decide)), k_33, by rw [ht]; exact hP9, hD9⟩⟩, hS.F ht⟩) hS.2.2 dX0_close_66
def v_s_X0_findTwins : List Cond := Cond.code yX0_findTwins cX0_findTwins 4 none :: ([Cond.fieldLink RX0 27 "MayRings$Families" "twins" "[I", Cond.fieldLink RX0 52 "MayRings$Ways" "houses" "I", Cond.methodLink RX0 74 yX0_areTwins, Cond.instanceMethod yX0_areTwins, Cond.selects RX0 yX0_areTwins yX0_areTwins, Cond.initialized RX0] ++ (wsX00 ++ (wsX70 ++ (v_s_X0_areTwins ++ ([])))))
theorem k_s_X0_findTwins : GoodIn lw_tbl v_s_X0_findTwins := gd_c (List.mem_of_getElem? (i := 1038) (by decide +kernel)) rfl (goodIn_app (gd_c (List.mem_of_getElem? (i := 505) (by decide +kernel)) rfl (gd_c (List.mem_of_getElem? (i := 453) (by decide +kernel)) rfl (gd_c (List.mem_of_getElem? (i := 1039) (by decide +kernel)) rfl (gd_c (List.mem_of_getElem? (i := 1041) (by decide +kernel)) rfl (gd_c (List.mem_of_getElem? (i := 54) (by decide +kernel)) rfl (gd_c (List.mem_of_getElem? (i := 143) (by decide +kernel)) rfl (gd_nil))))))) (goodIn_app kfX0 (goodIn_app kfX7 (goodIn_app k_s_X0_areTwins (gd_nil)))))
set_option maxHeartbeats 2000000 in
set_option maxRecDepth 100000 in
theorem c_s_X0_findTwins (l : Launch) (dC : Nat → ClassId) (dI : Nat → Nat → Nat) (cB cI cJ cZ cP : ClassId) (h0 : Nat) (h1 : Nat) (h2 : Nat) (h3 : Nat) (h4 : Nat) (h5 : Nat) (h6 : Nat) (g5 : Nat → Int32) (a0 : Int32) (a1 : Int32) (a2 : Int32) (ha2 : rg (0) (9) a2) (a3 : Int32) (h7 : Nat) (h8 : Nat) (g6 : Nat → Int32) (hg6 : rgA (0) (511) g6) (h9 : Nat) (g7 : Nat → Int32) (hg7 : rgA (0) (511) g7) (h10 : Nat) (h11 : Nat) (h12 : Nat) (h13 : Nat) (a4 : Int32) (ha4 : rg (0) (511) a4) (a5 : Int32) (a6 : Int32) (a7 : Int32) (a8 : Int32) (a9 : Int32) (a10 : Int32) (a11 : Int32) (sz : Nat) : Met l yX0_findTwins v_s_X0_findTwins ({ frames := 1, cells := 0, slots := 0, locals := 26 }) (va_Pc [.ref h0, .ref h7] (fun U => U.heap.size = sz ∧ va_P (dC, dI) vwCl [(h0, .inr (0, [.ref h1, .ref h2, .ref h3, .ref h4, .ref h5, .ref h6, .int a0, .int a1, .int a2, .int a3])), (h6, .inl (cI, 9, .inl g5)), (h7, .inr (7, [.ref h8, .ref h9, .ref h10, .ref h11, .ref h12, .ref h13, .int a4, .int a5, .int a6, .int a7, .int a8, .int a9, .int a10, .int a11])), (h8, .inl (cI, 9, .inl g6)), (h9, .inl (cI, 9, .inl g7))] U.heap ∧ va_K (dC, dI) vwCl (ty5 cB cI cJ cZ cP) U ∧ va_D (fun _ => True) [(h0, .inr (0, [.ref h1, .ref h2, .ref h3, .ref h4, .ref h5, .ref h6, .int a0, .int a1, .int a2, .int a3])), (h6, .inl (cI, 9, .inl g5)), (h7, .inr (7, [.ref h8, .ref h9, .ref h10, .ref h11, .ref h12, .ref h13, .int a4, .int a5, .int a6, .int a7, .int a8, .int a9, .int a10, .int a11])), (h8, .inl (cI, 9, .inl g6)), (h9, .inl (cI, 9, .inl g7))])) (va_Qv (fun _ : Unit => True) (fun _ t => ∃ (z0 : Nat → Int32), va_P (dC, dI) vwCl [(h0, .inr (0, [.ref h1, .ref h2, .ref h3, .ref h4, .ref h5, .ref h6, .int a0, .int a1, .int a2, .int a3])), (h6, .inl (cI, 9, .inl z0)), (h7, .inr (7, [.ref h8, .ref h9, .ref h10, .ref h11, .ref h12, .ref h13, .int a4, .int a5, .int a6, .int a7, .int a8, .int a9, .int a10, .int a11])), (h8, .inl (cI, 9, .inl g6)), (h9, .inl (cI, 9, .inl g7))] t.heap ∧ va_D (va_A [(h0, .inr (0, [.ref h1, .ref h2, .ref h3, .ref h4, .ref h5, .ref h6, .int a0, .int a1, .int a2, .int a3])), (h6, .inl (cI, 9, .inl g5)), (h7, .inr (7, [.ref h8, .ref h9, .ref h10, .ref h11, .ref h12, .ref h13, .int a4, .int a5, .int a6, .int a7, .int a8, .int a9, .int a10, .int a11])), (h8, .inl (cI, 9, .inl g6)), (h9, .inl (cI, 9, .inl g7))] sz) [(h0, .inr (0, [.ref h1, .ref h2, .ref h3, .ref h4, .ref h5, .ref h6, .int a0, .int a1, .int a2, .int a3])), (h6, .inl (cI, 9, .inl z0)), (h7, .inr (7, [.ref h8, .ref h9, .ref h10, .ref h11, .ref h12, .ref h13, .int a4, .int a5, .int a6, .int a7, .int a8, .int a9, .int a10, .int a11])), (h8, .inl (cI, 9, .inl g6)), (h9, .inl (cI, 9, .inl g7))]) (va_A [(h0, .inr (0, [.ref h1, .ref h2, .ref h3, .ref h4, .ref h5, .ref h6, .int a0, .int a1, .int a2, .int a3])), (h6, .inl (cI, 9, .inl g5)), (h7, .inr (7, [.ref h8, .ref h9, .ref h10, .ref h11, .ref h12, .ref h13, .int a4, .int a5, .int a6, .int a7, .int a8, .int a9, .int a10, .int a11])), (h8, .inl (cI, 9, .inl g6)), (h9, .inl (cI, 9, .inl g7))] sz)) 0 0 (va_A [(h0, .inr (0, [.ref h1, .ref h2, .ref h3, .ref h4, .ref h5, .ref h6, .int a0, .int a1, .int a2, .int a3])), (h6, .inl (cI, 9, .inl g5)), (h7, .inr (7, [.ref h8, .ref h9, .ref h10, .ref h11, .ref h12, .ref h13, .int a4, .int a5, .int a6, .int a7, .int a8, .int a9, .int a10, .int a11])), (h8, .inl (cI, 9, .inl g6)), (h9, .inl (cI, 9, .inl g7))] sz) := by
  refine Met.ofW (cc := cX0_findTwins) (maxL := 4) (ret := none) (by decide) rfl ?_
  intro p e s m args below meth c s₁ B hml hv
  obtain ⟨rfl, hsz, hP, hK, hD0⟩ := hv
  have hx := B.exec
  have hb := B.bytes
  have hr := B.returns
  have hts := atoms_spec (ws := v_s_X0_findTwins) B.pre
  have hown : s.vm.findClass RX0 = some m.cls := findClass_of_methodNamed B.named
  have hlocks := B.notSynchronized
  have hinX0 : ∀ w ∈ wsX00, w ∈ v_s_X0_findTwins := fun _ h => List.mem_cons_of_mem _ (List.mem_append_right _ (List.mem_append_left _ h))
  have hinX7 : ∀ w ∈ wsX70, w ∈ v_s_X0_findTwins := fun _ h => List.mem_cons_of_mem _ (List.mem_append_right _ (List.mem_append_right _ (List.mem_append_left _ h)))
  subst hsz
  have hD := hD0.self (sz := s.heap.size)
  generalize hAe : va_A [(h0, .inr (0, [.ref h1, .ref h2, .ref h3, .ref h4, .ref h5, .ref h6, .int a0, .int a1, .int a2, .int a3])), (h6, .inl (cI, 9, .inl g5)), (h7, .inr (7, [.ref h8, .ref h9, .ref h10, .ref h11, .ref h12, .ref h13, .int a4, .int a5, .int a6, .int a7, .int a8, .int a9, .int a10, .int a11])), (h8, .inl (cI, 9, .inl g6)), (h9, .inl (cI, 9, .inl g7))] s.heap.size = A at hD ⊢
  have hA : ∀ q : Nat, s.heap.size ≤ q → A q := fun q h => by rw [← hAe]; exact Or.inr h
  have hP : va_P (dC, dI) vwCl [(h0, .inr (0, [.ref h1, .ref h2, .ref h3, .ref h4, .ref h5, .ref h6, .int a0, .int a1, .int a2, .int a3])), (h6, .inl (cI, 9, .inl g5)), (h7, .inr (7, [.ref h8, .ref h9, .ref h10, .ref h11, .ref h12, .ref h13, .int a4, .int a5, .int a6, .int a7, .int a8, .int a9, .int a10, .int a11])), (h8, .inl (cI, 9, .inl g6)), (h9, .inl (cI, 9, .inl g7))] s.heap := hP
  have hl := lv_entry ([.ref h0, .ref h7]) (n := 4) (Nat.le_of_ble_eq_true rfl)
  rw [lg_entry_eq]
  generalize (lg_sl ([.ref h0, .ref h7]) ++ List.replicate (4 - (lg_sl ([.ref h0, .ref h7])).length) Slot.unset).toArray = ls at hl ⊢
  have hl : lv_has ls 4 [(0, .ref h0), (1, .ref h7)] := hl
  refine W_gen (A := A) hP (fun H locs hP hS => ?_)
  refine lv_iconst (v := 0) hx hb dX0_findTwins_0 (by decide) ?_
  refine lv_istore_n (lv' := [(2, .int 0), (0, .ref h0), (1, .ref h7)]) hx hb dX0_findTwins_1 rfl hl (by decide) rfl (fun ls hl => ?_)
  refine W_loopM (σ := (Nat → Int32) × Int32) (fun u H locs ls => va_P (dC, dI) vwCl [(h0, .inr (0, [.ref h1, .ref h2, .ref h3, .ref h4, .ref h5, .ref h6, .int a0, .int a1, .int a2, .int a3])), (h6, .inl (cI, 9, .inl u.1)), (h7, .inr (7, [.ref h8, .ref h9, .ref h10, .ref h11, .ref h12, .ref h13, .int a4, .int a5, .int a6, .int a7, .int a8, .int a9, .int a10, .int a11])), (h8, .inl (cI, 9, .inl g6)), (h9, .inl (cI, 9, .inl g7))] H ∧ va_D A [(h0, .inr (0, [.ref h1, .ref h2, .ref h3, .ref h4, .ref h5, .ref h6, .int a0, .int a1, .int a2, .int a3])), (h6, .inl (cI, 9, .inl u.1)), (h7, .inr (7, [.ref h8, .ref h9, .ref h10, .ref h11, .ref h12, .ref h13, .int a4, .int a5, .int a6, .int a7, .int a8, .int a9, .int a10, .int a11])), (h8, .inl (cI, 9, .inl g6)), (h9, .inl (cI, 9, .inl g7))] ∧ va_S A s.heap H locs ∧ lv_has ls 4 [(2, .int u.2), (0, .ref h0), (1, .ref h7)] ∧ rg (0) (9) u.2) (fun u => ((9) - u.2.toInt).toNat) 2 [] ?_ (g5, 0) H locs ls ⟨hP, hD, hS, hl, (rg_mono (rg_k (x := 0) (c := 0) (by decide)) (by decide) (by decide))⟩
  rintro ⟨f_1434, x_1435⟩ H locs ls ⟨hP, hD, hS, hl, hx_1435⟩ ih_1713
  replace hP : va_P (dC, dI) vwCl [(h0, .inr (0, [.ref h1, .ref h2, .ref h3, .ref h4, .ref h5, .ref h6, .int a0, .int a1, .int a2, .int a3])), (h6, .inl (cI, 9, .inl f_1434)), (h7, .inr (7, [.ref h8, .ref h9, .ref h10, .ref h11, .ref h12, .ref h13, .int a4, .int a5, .int a6, .int a7, .int a8, .int a9, .int a10, .int a11])), (h8, .inl (cI, 9, .inl g6)), (h9, .inl (cI, 9, .inl g7))] H := hP
  replace hD : va_D A [(h0, .inr (0, [.ref h1, .ref h2, .ref h3, .ref h4, .ref h5, .ref h6, .int a0, .int a1, .int a2, .int a3])), (h6, .inl (cI, 9, .inl f_1434)), (h7, .inr (7, [.ref h8, .ref h9, .ref h10, .ref h11, .ref h12, .ref h13, .int a4, .int a5, .int a6, .int a7, .int a8, .int a9, .int a10, .int a11])), (h8, .inl (cI, 9, .inl g6)), (h9, .inl (cI, 9, .inl g7))] := hD
  replace hl : lv_has ls 4 [(2, .int x_1435), (0, .ref h0), (1, .ref h7)] := hl
  replace hx_1435 : rg (0) (9) x_1435 := hx_1435
  refine lv_iload_n hx hb dX0_findTwins_2 rfl (lv_at hl 0 rfl) ?_
  refine lv_bipush (v := 9) hx hb dX0_findTwins_3 (by decide) ?_
  refine lv_icmp_ge (tgt := 75) hx hb dX0_findTwins_5 (by decide) (fun c_1714 => ?_) (fun c_1714 => ?_)
  · skip
    have h_1715 : rg (9) (9) x_1435 := by have ha := hx_1435; have hb_ := (rg_k (x := 9) (c := 9) (by decide)); simp only [rg, fa_lt, fa_le, fa_eq, (by decide : (9 : Int32).toInt = 9)] at ha hb_ c_1714; simp only [rg]; omega
    have hP9 := hP.sub (ws' := [(h0, .inr (0, [.ref h1, .ref h2, .ref h3, .ref h4, .ref h5, .ref h6, .int a0, .int a1, .int a2, .int a3])), (h6, .inl (cI, 9, .inl f_1434)), (h7, .inr (7, [.ref h8, .ref h9, .ref h10, .ref h11, .ref h12, .ref h13, .int a4, .int a5, .int a6, .int a7, .int a8, .int a9, .int a10, .int a11])), (h8, .inl (cI, 9, .inl g6)), (h9, .inl (cI, 9, .inl g7))]) [0, 1, 2, 3, 4] rfl
    have hD9 := hD.sub (ws' := [(h0, .inr (0, [.ref h1, .ref h2, .ref h3, .ref h4, .ref h5, .ref h6, .int a0, .int a1, .int a2, .int a3])), (h6, .inl (cI, 9, .inl f_1434)), (h7, .inr (7, [.ref h8, .ref h9, .ref h10, .ref h11, .ref h12, .ref h13, .int a4, .int a5, .int a6, .int a7, .int a8, .int a9, .int a10, .int a11])), (h8, .inl (cI, 9, .inl g6)), (h9, .inl (cI, 9, .inl g7))]) [0, 1, 2, 3, 4] (by decide) rfl
    exact W.vret hx hb hr (fun t ht hW => ⟨⟨(), rfl, trivial, ⟨f_1434, by rw [ht]; exact hP9, hD9⟩⟩, hS.F ht⟩) hS.2.2 dX0_findTwins_75
  · skip
    have h_1716 : rg (0) (8) x_1435 := by have ha := hx_1435; have hb_ := (rg_k (x := 9) (c := 9) (by decide)); simp only [rg, fa_lt, fa_le, fa_eq, (by decide : (9 : Int32).toInt = 9)] at ha hb_ c_1714; simp only [rg]; omega
    refine lv_aload_n hx hb dX0_findTwins_8 rfl (lv_at hl 1 rfl) ?_
    refine va_get (D := (dC, dI)) (ci := 0) (v := .ref h6) (C := RX0) (T := TX0) (N := 10) hx hb hts hinX0 hown hK hP 0 rfl rfl 5 (by decide) (hts (.fieldLink RX0 27 "MayRings$Families" "twins" "[I") (List.mem_of_getElem? (i := 1) rfl)) (fun _ h9 => h9) rfl dX0_findTwins_9 ?_
    refine lv_iload_n hx hb dX0_findTwins_12 rfl (lv_at hl 0 rfl) ?_
    refine lv_iconst (v := 0) hx hb dX0_findTwins_13 (by decide) ?_
    refine va_iast hx hb hK hP hD hS 1 1 rfl rfl (rg_in (n := 9) (rg_mono h_1716 (by decide) (by decide))) dX0_findTwins_14 (fun H locs hP hD hS => ?_)
    obtain ⟨f_1717, ef_1717⟩ : ∃ f : Nat → Int32, f = upd f_1434 (x_1435 : Int32).toNatClampNeg 0 := ⟨_, rfl⟩
    rw [← ef_1717] at hP hD
    clear ef_1717
    replace hP : va_P (dC, dI) vwCl [(h0, .inr (0, [.ref h1, .ref h2, .ref h3, .ref h4, .ref h5, .ref h6, .int a0, .int a1, .int a2, .int a3])), (h6, .inl (cI, 9, .inl f_1717)), (h7, .inr (7, [.ref h8, .ref h9, .ref h10, .ref h11, .ref h12, .ref h13, .int a4, .int a5, .int a6, .int a7, .int a8, .int a9, .int a10, .int a11])), (h8, .inl (cI, 9, .inl g6)), (h9, .inl (cI, 9, .inl g7))] H := hP
    replace hD : va_D A [(h0, .inr (0, [.ref h1, .ref h2, .ref h3, .ref h4, .ref h5, .ref h6, .int a0, .int a1, .int a2, .int a3])), (h6, .inl (cI, 9, .inl f_1717)), (h7, .inr (7, [.ref h8, .ref h9, .ref h10, .ref h11, .ref h12, .ref h13, .int a4, .int a5, .int a6, .int a7, .int a8, .int a9, .int a10, .int a11])), (h8, .inl (cI, 9, .inl g6)), (h9, .inl (cI, 9, .inl g7))] := hD
    refine lv_iconst (v := 0) hx hb dX0_findTwins_15 (by decide) ?_
    refine lv_istore_n (lv' := [(3, .int 0), (2, .int x_1435), (0, .ref h0), (1, .ref h7)]) hx hb dX0_findTwins_16 rfl hl (by decide) rfl (fun ls hl => ?_)
    refine W_loopM (σ := Int32 × (Nat → Int32)) (fun u H locs ls => va_P (dC, dI) vwCl [(h0, .inr (0, [.ref h1, .ref h2, .ref h3, .ref h4, .ref h5, .ref h6, .int a0, .int a1, .int a2, .int a3])), (h6, .inl (cI, 9, .inl u.2)), (h7, .inr (7, [.ref h8, .ref h9, .ref h10, .ref h11, .ref h12, .ref h13, .int a4, .int a5, .int a6, .int a7, .int a8, .int a9, .int a10, .int a11])), (h8, .inl (cI, 9, .inl g6)), (h9, .inl (cI, 9, .inl g7))] H ∧ va_D A [(h0, .inr (0, [.ref h1, .ref h2, .ref h3, .ref h4, .ref h5, .ref h6, .int a0, .int a1, .int a2, .int a3])), (h6, .inl (cI, 9, .inl u.2)), (h7, .inr (7, [.ref h8, .ref h9, .ref h10, .ref h11, .ref h12, .ref h13, .int a4, .int a5, .int a6, .int a7, .int a8, .int a9, .int a10, .int a11])), (h8, .inl (cI, 9, .inl g6)), (h9, .inl (cI, 9, .inl g7))] ∧ va_S A s.heap H locs ∧ lv_has ls 4 [(3, .int u.1), (2, .int x_1435), (0, .ref h0), (1, .ref h7)] ∧ rg (0) (8) u.1) (fun u => ((8) - u.1.toInt).toNat) 17 [] ?_ (0, f_1717) H locs ls ⟨hP, hD, hS, hl, (rg_mono (rg_k (x := 0) (c := 0) (by decide)) (by decide) (by decide))⟩
    rintro ⟨x_1936, f_1937⟩ H locs ls ⟨hP, hD, hS, hl, hx_1936⟩ ih_1964
    replace hP : va_P (dC, dI) vwCl [(h0, .inr (0, [.ref h1, .ref h2, .ref h3, .ref h4, .ref h5, .ref h6, .int a0, .int a1, .int a2, .int a3])), (h6, .inl (cI, 9, .inl f_1937)), (h7, .inr (7, [.ref h8, .ref h9, .ref h10, .ref h11, .ref h12, .ref h13, .int a4, .int a5, .int a6, .int a7, .int a8, .int a9, .int a10, .int a11])), (h8, .inl (cI, 9, .inl g6)), (h9, .inl (cI, 9, .inl g7))] H := hP
    replace hD : va_D A [(h0, .inr (0, [.ref h1, .ref h2, .ref h3, .ref h4, .ref h5, .ref h6, .int a0, .int a1, .int a2, .int a3])), (h6, .inl (cI, 9, .inl f_1937)), (h7, .inr (7, [.ref h8, .ref h9, .ref h10, .ref h11, .ref h12, .ref h13, .int a4, .int a5, .int a6, .int a7, .int a8, .int a9, .int a10, .int a11])), (h8, .inl (cI, 9, .inl g6)), (h9, .inl (cI, 9, .inl g7))] := hD
    replace hl : lv_has ls 4 [(3, .int x_1936), (2, .int x_1435), (0, .ref h0), (1, .ref h7)] := hl
    replace hx_1936 : rg (0) (8) x_1936 := hx_1936
    refine lv_iload_n hx hb dX0_findTwins_17 rfl (lv_at hl 0 rfl) ?_
    refine lv_iload_n hx hb dX0_findTwins_18 rfl (lv_at hl 1 rfl) ?_
    refine lv_icmp_ge (tgt := 69) hx hb dX0_findTwins_19 (by decide) (fun c_1965 => ?_) (fun c_1965 => ?_)
    · skip
      obtain ⟨x_1966, ex_1966⟩ : ∃ y : Int32, y = x_1435 + Int32.ofInt (1) := ⟨_, rfl⟩
      have hx_1966 : rg (1) (9) x_1966 := by rw [ex_1966]; exact rg_mono (rg_add h_1716 (rg_k (x := Int32.ofInt (1)) (c := 1) (by decide)) (by decide) (by decide)) (by decide) (by decide)
      have qx_1966 : x_1966.toInt = x_1435.toInt + (1) := by rw [ex_1966]; exact rg_addE h_1716 (rg_k (x := Int32.ofInt (1)) (c := 1) (by decide)) (by decide) (by decide) (by decide)
      refine lv_iinc (v := x_1966) (lv' := [(2, .int x_1966), (3, .int x_1936), (0, .ref h0), (1, .ref h7)]) hx hb dX0_findTwins_69 hl (k := 1) rfl (ex_1966.symm) (by decide) rfl (fun ls hl => ?_)
      clear ex_1966
      refine lv_goto (tgt := 2) hx hb dX0_findTwins_72 (by decide) ?_
      exact ih_1713 (f_1937, x_1966) H locs ls ⟨hP.sub (ws' := [(h0, .inr (0, [.ref h1, .ref h2, .ref h3, .ref h4, .ref h5, .ref h6, .int a0, .int a1, .int a2, .int a3])), (h6, .inl (cI, 9, .inl f_1937)), (h7, .inr (7, [.ref h8, .ref h9, .ref h10, .ref h11, .ref h12, .ref h13, .int a4, .int a5, .int a6, .int a7, .int a8, .int a9, .int a10, .int a11])), (h8, .inl (cI, 9, .inl g6)), (h9, .inl (cI, 9, .inl g7))]) [0, 1, 2, 3, 4] rfl, hD.sub (ws' := [(h0, .inr (0, [.ref h1, .ref h2, .ref h3, .ref h4, .ref h5, .ref h6, .int a0, .int a1, .int a2, .int a3])), (h6, .inl (cI, 9, .inl f_1937)), (h7, .inr (7, [.ref h8, .ref h9, .ref h10, .ref h11, .ref h12, .ref h13, .int a4, .int a5, .int a6, .int a7, .int a8, .int a9, .int a10, .int a11])), (h8, .inl (cI, 9, .inl g6)), (h9, .inl (cI, 9, .inl g7))]) [0, 1, 2, 3, 4] (by decide) rfl, hS, lv_sub hl [0, 2, 3] rfl, (rg_mono hx_1966 (by decide) (by decide))⟩ (by show ((9) - x_1966.toInt).toNat < ((9) - x_1435.toInt).toNat; have ha := h_1716; simp only [rg] at ha; omega)
    · skip
      have h_1967 : rg (0) (7) x_1936 := by have ha := hx_1936; have hb_ := h_1716; simp only [rg, fa_lt, fa_le, fa_eq] at ha hb_ c_1965; simp only [rg]; omega
      have h_1968 : rg (1) (8) x_1435 := by have ha := hx_1936; have hb_ := h_1716; simp only [rg, fa_lt, fa_le, fa_eq] at ha hb_ c_1965; simp only [rg]; omega
      refine lv_aload_n hx hb dX0_findTwins_22 rfl (lv_at hl 3 rfl) ?_
      refine va_get (D := (dC, dI)) (ci := 7) (v := .int a4) (C := RX7) (T := TX7) (N := 14) hx hb hts hinX7 hown hK hP 2 rfl rfl 6 (by decide) (hts (.fieldLink RX0 52 "MayRings$Ways" "houses" "I") (List.mem_of_getElem? (i := 2) rfl)) (fun _ h9 => h9) rfl dX0_findTwins_23 ?_
      refine lv_iload_n hx hb dX0_findTwins_26 rfl (lv_at hl 1 rfl) ?_
      refine lv_ishr hx hb dX0_findTwins_27 ?_
      refine lv_topi (fun x_1969 ex_1969 => ?_)
      have hx_1969 : rg (0) (511) x_1969 := by rw [ex_1969]; exact rg_mono (rg_shr (b := 511) (rg_mono ha4 (by decide) (by decide))) (by decide) (by decide)
      have kx_1969_0 : rg 1 2147483647 x_1969 → rg 1 (511) a4 := fun hq => rg_shrP ha4 (ex_1969 ▸ hq)
      refine lv_aload_n hx hb dX0_findTwins_28 rfl (lv_at hl 3 rfl) ?_
      refine va_get (D := (dC, dI)) (ci := 7) (v := .int a4) (C := RX7) (T := TX7) (N := 14) hx hb hts hinX7 hown hK hP 2 rfl rfl 6 (by decide) (hts (.fieldLink RX0 52 "MayRings$Ways" "houses" "I") (List.mem_of_getElem? (i := 2) rfl)) (fun _ h9 => h9) rfl dX0_findTwins_29 ?_
      refine lv_iload_n hx hb dX0_findTwins_32 rfl (lv_at hl 0 rfl) ?_
      refine lv_ishr hx hb dX0_findTwins_33 ?_
      refine lv_topi (fun x_1970 ex_1970 => ?_)
      have hx_1970 : rg (0) (511) x_1970 := by rw [ex_1970]; exact rg_mono (rg_shr (b := 511) (rg_mono ha4 (by decide) (by decide))) (by decide) (by decide)
      have kx_1970_0 : rg 1 2147483647 x_1970 → rg 1 (511) a4 := fun hq => rg_shrP ha4 (ex_1970 ▸ hq)
      refine lv_iand hx hb dX0_findTwins_34 ?_
      refine lv_topi (fun x_1971 ex_1971 => ?_)
      have hx_1971 : rg (0) (511) x_1971 := by rw [ex_1971]; exact rg_mono (rg_andl (b := 511) (rg_mono hx_1969 (by decide) (by decide))) (by decide) (by decide)
      have kx_1971_0 : rg 1 2147483647 x_1971 → rg 1 (511) x_1969 := fun hq => rg_andP hx_1969 (ex_1971 ▸ hq)
      have kx_1971_1 : rg 1 2147483647 x_1971 → rg 1 (511) x_1970 := fun hq => rg_andP' hx_1970 (ex_1971 ▸ hq)
      refine lv_iconst (v := 1) hx hb dX0_findTwins_35 (by decide) ?_
      refine lv_iand hx hb dX0_findTwins_36 ?_
      refine lv_topi (fun x_1972 ex_1972 => ?_)
      have hx_1972 : rg (0) (1) x_1972 := by rw [ex_1972]; exact rg_mono (rg_andr (b := 1) (rg_mono (rg_k (x := 1) (c := 1) (by decide)) (by decide) (by decide))) (by decide) (by decide)
      have kx_1972_0 : rg 1 2147483647 x_1972 → rg 1 (511) x_1971 := fun hq => rg_andP hx_1971 (ex_1972 ▸ hq)
      refine lv_iconst (v := 1) hx hb dX0_findTwins_37 (by decide) ?_
      refine lv_icmp_ne (tgt := 63) hx hb dX0_findTwins_38 (by decide) (fun c_1973 => ?_) (fun c_1973 => ?_)
      · skip
        have h_1974 : rg (0) (0) x_1972 := by have ha := hx_1972; have hb_ := (rg_k (x := 1) (c := 1) (by decide)); simp only [rg, fa_lt, fa_le, fa_eq, (by decide : (1 : Int32).toInt = 1)] at ha hb_ c_1973; simp only [rg]; omega
        obtain ⟨x_1975, ex_1975⟩ : ∃ y : Int32, y = x_1936 + Int32.ofInt (1) := ⟨_, rfl⟩
        have hx_1975 : rg (1) (8) x_1975 := by rw [ex_1975]; exact rg_mono (rg_add h_1967 (rg_k (x := Int32.ofInt (1)) (c := 1) (by decide)) (by decide) (by decide)) (by decide) (by decide)
        have qx_1975 : x_1975.toInt = x_1936.toInt + (1) := by rw [ex_1975]; exact rg_addE h_1967 (rg_k (x := Int32.ofInt (1)) (c := 1) (by decide)) (by decide) (by decide) (by decide)
        refine lv_iinc (v := x_1975) (lv' := [(3, .int x_1975), (2, .int x_1435), (0, .ref h0), (1, .ref h7)]) hx hb dX0_findTwins_63 hl (k := 0) rfl (ex_1975.symm) (by decide) rfl (fun ls hl => ?_)
        clear ex_1975
        refine lv_goto (tgt := 17) hx hb dX0_findTwins_66 (by decide) ?_
        exact ih_1964 (x_1975, f_1937) H locs ls ⟨hP.sub (ws' := [(h0, .inr (0, [.ref h1, .ref h2, .ref h3, .ref h4, .ref h5, .ref h6, .int a0, .int a1, .int a2, .int a3])), (h6, .inl (cI, 9, .inl f_1937)), (h7, .inr (7, [.ref h8, .ref h9, .ref h10, .ref h11, .ref h12, .ref h13, .int a4, .int a5, .int a6, .int a7, .int a8, .int a9, .int a10, .int a11])), (h8, .inl (cI, 9, .inl g6)), (h9, .inl (cI, 9, .inl g7))]) [0, 1, 2, 3, 4] rfl, hD.sub (ws' := [(h0, .inr (0, [.ref h1, .ref h2, .ref h3, .ref h4, .ref h5, .ref h6, .int a0, .int a1, .int a2, .int a3])), (h6, .inl (cI, 9, .inl f_1937)), (h7, .inr (7, [.ref h8, .ref h9, .ref h10, .ref h11, .ref h12, .ref h13, .int a4, .int a5, .int a6, .int a7, .int a8, .int a9, .int a10, .int a11])), (h8, .inl (cI, 9, .inl g6)), (h9, .inl (cI, 9, .inl g7))]) [0, 1, 2, 3, 4] (by decide) rfl, hS, lv_sub hl [0, 1, 2, 3] rfl, (rg_mono hx_1975 (by decide) (by decide))⟩ (by show ((8) - x_1975.toInt).toNat < ((8) - x_1936.toInt).toNat; have ha := h_1967; simp only [rg] at ha; omega)
      · skip
        have h_1976 : rg (1) (1) x_1972 := by have ha := hx_1972; have hb_ := (rg_k (x := 1) (c := 1) (by decide)); simp only [rg, fa_lt, fa_le, fa_eq, (by decide : (1 : Int32).toInt = 1)] at ha hb_ c_1973; simp only [rg]; omega
        have h_1977 : rg (1) (511) x_1971 := rg_meet hx_1971 (kx_1972_0 (rg_mono h_1976 (by decide) (by decide))) (by decide) (by decide)
        have h_1978 : rg (1) (511) x_1969 := rg_meet hx_1969 (kx_1971_0 (rg_mono h_1977 (by decide) (by decide))) (by decide) (by decide)
        have h_1979 : rg (1) (511) a4 := rg_meet ha4 (kx_1969_0 (rg_mono h_1978 (by decide) (by decide))) (by decide) (by decide)
        have h_1980 : rg (1) (511) x_1970 := rg_meet hx_1970 (kx_1971_1 (rg_mono h_1977 (by decide) (by decide))) (by decide) (by decide)
        refine lv_aload_n hx hb dX0_findTwins_41 rfl (lv_at hl 2 rfl) ?_
        refine lv_aload_n hx hb dX0_findTwins_42 rfl (lv_at hl 3 rfl) ?_
        refine lv_iload_n hx hb dX0_findTwins_43 rfl (lv_at hl 1 rfl) ?_
        refine lv_iload_n hx hb dX0_findTwins_44 rfl (lv_at hl 0 rfl) ?_
        have hPc := hP.sub (ws' := [(h0, .inr (0, [.ref h1, .ref h2, .ref h3, .ref h4, .ref h5, .ref h6, .int a0, .int a1, .int a2, .int a3])), (h7, .inr (7, [.ref h8, .ref h9, .ref h10, .ref h11, .ref h12, .ref h13, .int a4, .int a5, .int a6, .int a7, .int a8, .int a9, .int a10, .int a11])), (h8, .inl (cI, 9, .inl g6)), (h9, .inl (cI, 9, .inl g7))]) [0, 2, 3, 4] rfl
        have hDc := hD.sub (ws' := [(h0, .inr (0, [.ref h1, .ref h2, .ref h3, .ref h4, .ref h5, .ref h6, .int a0, .int a1, .int a2, .int a3])), (h7, .inr (7, [.ref h8, .ref h9, .ref h10, .ref h11, .ref h12, .ref h13, .int a4, .int a5, .int a6, .int a7, .int a8, .int a9, .int a10, .int a11])), (h8, .inl (cI, 9, .inl g6)), (h9, .inl (cI, 9, .inl g7))]) [0, 2, 3, 4] (by decide) rfl
        have hFc := va_free (wc := [(h0, .inr (0, [.ref h1, .ref h2, .ref h3, .ref h4, .ref h5, .ref h6, .int a0, .int a1, .int a2, .int a3])), (h7, .inr (7, [.ref h8, .ref h9, .ref h10, .ref h11, .ref h12, .ref h13, .int a4, .int a5, .int a6, .int a7, .int a8, .int a9, .int a10, .int a11])), (h8, .inl (cI, 9, .inl g6)), (h9, .inl (cI, 9, .inl g7))]) hD hS hA [0, 2, 3, 4] rfl
        refine va_calli (va_runV (As := [.ref h7, .int x_1435, .int x_1936]) (rest := []) ⟨hx, hb, hml, hown, hts⟩ (c_s_X0_areTwins l dC dI cB cI cJ cZ cP h0 h1 h2 h3 h4 h5 h6 a0 a1 a2 (rg_mono ha2 (by decide) (by decide)) a3 h7 h8 g6 hg6 h9 g7 hg7 h10 h11 h12 h13 a4 a5 a6 a7 a8 a9 a10 a11 x_1435 (rg_mono h_1968 (by decide) (by decide)) x_1936 (rg_mono h_1967 (by decide) (by decide)) H.size) (cwV 3 hts (gd_V (List.mem_of_getElem? (i := 3) rfl) (List.mem_of_getElem? (i := 4) rfl) (List.mem_of_getElem? (i := 5) rfl) (List.mem_of_getElem? (i := 6) rfl) (gd_mono k_s_X0_areTwins (fun _ h => List.mem_cons_of_mem _ (List.mem_append_right _ (List.mem_append_right _ (List.mem_append_right _ (List.mem_append_left _ h))))))) rfl rfl rfl (by decide +kernel) ⟨Nat.le_of_ble_eq_true rfl, Nat.le_of_ble_eq_true rfl⟩) ⟨fun a U g mk q => by obtain ⟨q0, q1, qP, qK, qD⟩ := q; exact ⟨q0, q1, qP, va_K.moved (u := U) (U := U.calling g mk a) (Vm.Alike.refl U.vm) qK, qD⟩, va_recv hK hPc (ci := 0) (q0 := 0) rfl rfl, fun U hU hW => ⟨rfl, by rw [hU], by rw [hU]; exact hPc, va_K.moved hW.alike hK, hDc.weaken (fun _ _ _ _ => trivial)⟩⟩ rfl rfl hl.1 rfl (lv_room (Nat.le_of_ble_eq_true rfl)) dX0_findTwins_45 ⟨Nat.le_of_ble_eq_true rfl, Nat.le_of_ble_eq_true rfl⟩) hS (fun q _ h => hFc q h) hFc (fun r_1981 u t H1 locs ht hvm hw hB hz1 hk1 hS => ?_)
        obtain ⟨hP1, hD1⟩ := hB
        rw [ht] at hP1
        obtain ⟨hP, hD⟩ := va_join (wr := [(h6, .inl (cI, 9, .inl f_1937))]) (w1 := [(h0, .inr (0, [.ref h1, .ref h2, .ref h3, .ref h4, .ref h5, .ref h6, .int a0, .int a1, .int a2, .int a3])), (h7, .inr (7, [.ref h8, .ref h9, .ref h10, .ref h11, .ref h12, .ref h13, .int a4, .int a5, .int a6, .int a7, .int a8, .int a9, .int a10, .int a11])), (h8, .inl (cI, 9, .inl g6)), (h9, .inl (cI, 9, .inl g7))]) hP hD [0, 2, 3, 4] [1] rfl rfl (by decide) (by decide) hk1 hFc hP1 hD1
        generalize H1 = H at hP hS ⊢
        replace hP : va_P (dC, dI) vwCl [(h6, .inl (cI, 9, .inl f_1937)), (h0, .inr (0, [.ref h1, .ref h2, .ref h3, .ref h4, .ref h5, .ref h6, .int a0, .int a1, .int a2, .int a3])), (h7, .inr (7, [.ref h8, .ref h9, .ref h10, .ref h11, .ref h12, .ref h13, .int a4, .int a5, .int a6, .int a7, .int a8, .int a9, .int a10, .int a11])), (h8, .inl (cI, 9, .inl g6)), (h9, .inl (cI, 9, .inl g7))] H := hP
        replace hD : va_D A [(h6, .inl (cI, 9, .inl f_1937)), (h0, .inr (0, [.ref h1, .ref h2, .ref h3, .ref h4, .ref h5, .ref h6, .int a0, .int a1, .int a2, .int a3])), (h7, .inr (7, [.ref h8, .ref h9, .ref h10, .ref h11, .ref h12, .ref h13, .int a4, .int a5, .int a6, .int a7, .int a8, .int a9, .int a10, .int a11])), (h8, .inl (cI, 9, .inl g6)), (h9, .inl (cI, 9, .inl g7))] := hD
        have hr_1981 : rg (0) (1) r_1981 := hw
        refine lv_if_eq (tgt := 63) hx hb dX0_findTwins_48 (by decide) (fun c_1982 => ?_) (fun c_1982 => ?_)
        · skip
          have h_1983 : rg (0) (0) r_1981 := by have ha := hr_1981; have hb_ := (rg_k (x := 0) (c := 0) (by decide)); simp only [rg, fa_lt, fa_le, fa_eq, (by decide : (0 : Int32).toInt = 0)] at ha hb_ c_1982; simp only [rg]; omega
          obtain ⟨x_1984, ex_1984⟩ : ∃ y : Int32, y = x_1936 + Int32.ofInt (1) := ⟨_, rfl⟩
          have hx_1984 : rg (1) (8) x_1984 := by rw [ex_1984]; exact rg_mono (rg_add h_1967 (rg_k (x := Int32.ofInt (1)) (c := 1) (by decide)) (by decide) (by decide)) (by decide) (by decide)
          have qx_1984 : x_1984.toInt = x_1936.toInt + (1) := by rw [ex_1984]; exact rg_addE h_1967 (rg_k (x := Int32.ofInt (1)) (c := 1) (by decide)) (by decide) (by decide) (by decide)
          refine lv_iinc (v := x_1984) (lv' := [(3, .int x_1984), (2, .int x_1435), (0, .ref h0), (1, .ref h7)]) hx hb dX0_findTwins_63 hl (k := 0) rfl (ex_1984.symm) (by decide) rfl (fun ls hl => ?_)
          clear ex_1984
          refine lv_goto (tgt := 17) hx hb dX0_findTwins_66 (by decide) ?_
          exact ih_1964 (x_1984, f_1937) H locs ls ⟨hP.sub (ws' := [(h0, .inr (0, [.ref h1, .ref h2, .ref h3, .ref h4, .ref h5, .ref h6, .int a0, .int a1, .int a2, .int a3])), (h6, .inl (cI, 9, .inl f_1937)), (h7, .inr (7, [.ref h8, .ref h9, .ref h10, .ref h11, .ref h12, .ref h13, .int a4, .int a5, .int a6, .int a7, .int a8, .int a9, .int a10, .int a11])), (h8, .inl (cI, 9, .inl g6)), (h9, .inl (cI, 9, .inl g7))]) [1, 0, 2, 3, 4] rfl, hD.sub (ws' := [(h0, .inr (0, [.ref h1, .ref h2, .ref h3, .ref h4, .ref h5, .ref h6, .int a0, .int a1, .int a2, .int a3])), (h6, .inl (cI, 9, .inl f_1937)), (h7, .inr (7, [.ref h8, .ref h9, .ref h10, .ref h11, .ref h12, .ref h13, .int a4, .int a5, .int a6, .int a7, .int a8, .int a9, .int a10, .int a11])), (h8, .inl (cI, 9, .inl g6)), (h9, .inl (cI, 9, .inl g7))]) [1, 0, 2, 3, 4] (by decide) rfl, hS, lv_sub hl [0, 1, 2, 3] rfl, (rg_mono hx_1984 (by decide) (by decide))⟩ (by show ((8) - x_1984.toInt).toNat < ((8) - x_1936.toInt).toNat; have ha := h_1967; simp only [rg] at ha; omega)
        · skip
          have h_1985 : rg (1) (1) r_1981 := by have ha := hr_1981; have hb_ := (rg_k (x := 0) (c := 0) (by decide)); simp only [rg, fa_lt, fa_le, fa_eq, (by decide : (0 : Int32).toInt = 0)] at ha hb_ c_1982; simp only [rg]; omega
          refine lv_aload_n hx hb dX0_findTwins_51 rfl (lv_at hl 2 rfl) ?_
          refine va_get (D := (dC, dI)) (ci := 0) (v := .ref h6) (C := RX0) (T := TX0) (N := 10) hx hb hts hinX0 hown hK hP 1 rfl rfl 5 (by decide) (hts (.fieldLink RX0 27 "MayRings$Families" "twins" "[I") (List.mem_of_getElem? (i := 1) rfl)) (fun _ h9 => h9) rfl dX0_findTwins_52 ?_
          refine lv_iload_n hx hb dX0_findTwins_55 rfl (lv_at hl 1 rfl) ?_
          refine lv_dup2_11 hx hb dX0_findTwins_56 rfl rfl ?_
          refine va_iald hx hb hK hP 0 1 rfl rfl (rg_in (n := 9) (rg_mono h_1968 (by decide) (by decide))) dX0_findTwins_57 ?_
          refine lv_topi (fun x_1986 ex_1986 => ?_)
          refine lv_iconst (v := 1) hx hb dX0_findTwins_58 (by decide) ?_
          refine lv_iload_n hx hb dX0_findTwins_59 rfl (lv_at hl 0 rfl) ?_
          refine lv_ishl hx hb dX0_findTwins_60 ?_
          refine lv_topi (fun x_1987 ex_1987 => ?_)
          have hx_1987 : rg (1) (128) x_1987 := by rw [ex_1987]; exact rg_mono (rg_shl1 7 (rg_mono h_1967 (by decide) (by decide)) (by decide)) (by decide) (by decide)
          refine lv_ior hx hb dX0_findTwins_61 ?_
          refine lv_topi (fun x_1988 ex_1988 => ?_)
          refine va_iast hx hb hK hP hD hS 0 1 rfl rfl (rg_in (n := 9) (rg_mono h_1968 (by decide) (by decide))) dX0_findTwins_62 (fun H locs hP hD hS => ?_)
          obtain ⟨f_1989, ef_1989⟩ : ∃ f : Nat → Int32, f = upd f_1937 (x_1435 : Int32).toNatClampNeg x_1988 := ⟨_, rfl⟩
          rw [← ef_1989] at hP hD
          clear ef_1989
          replace hP : va_P (dC, dI) vwCl [(h6, .inl (cI, 9, .inl f_1989)), (h0, .inr (0, [.ref h1, .ref h2, .ref h3, .ref h4, .ref h5, .ref h6, .int a0, .int a1, .int a2, .int a3])), (h7, .inr (7, [.ref h8, .ref h9, .ref h10, .ref h11, .ref h12, .ref h13, .int a4, .int a5, .int a6, .int a7, .int a8, .int a9, .int a10, .int a11])), (h8, .inl (cI, 9, .inl g6)), (h9, .inl (cI, 9, .inl g7))] H := hP
          replace hD : va_D A [(h6, .inl (cI, 9, .inl f_1989)), (h0, .inr (0, [.ref h1, .ref h2, .ref h3, .ref h4, .ref h5, .ref h6, .int a0, .int a1, .int a2, .int a3])), (h7, .inr (7, [.ref h8, .ref h9, .ref h10, .ref h11, .ref h12, .ref h13, .int a4, .int a5, .int a6, .int a7, .int a8, .int a9, .int a10, .int a11])), (h8, .inl (cI, 9, .inl g6)), (h9, .inl (cI, 9, .inl g7))] := hD
          obtain ⟨x_1990, ex_1990⟩ : ∃ y : Int32, y = x_1936 + Int32.ofInt (1) := ⟨_, rfl⟩
          have hx_1990 : rg (1) (8) x_1990 := by rw [ex_1990]; exact rg_mono (rg_add h_1967 (rg_k (x := Int32.ofInt (1)) (c := 1) (by decide)) (by decide) (by decide)) (by decide) (by decide)
          have qx_1990 : x_1990.toInt = x_1936.toInt + (1) := by rw [ex_1990]; exact rg_addE h_1967 (rg_k (x := Int32.ofInt (1)) (c := 1) (by decide)) (by decide) (by decide) (by decide)
          refine lv_iinc (v := x_1990) (lv' := [(3, .int x_1990), (2, .int x_1435), (0, .ref h0), (1, .ref h7)]) hx hb dX0_findTwins_63 hl (k := 0) rfl (ex_1990.symm) (by decide) rfl (fun ls hl => ?_)
          clear ex_1990
          refine lv_goto (tgt := 17) hx hb dX0_findTwins_66 (by decide) ?_
          exact ih_1964 (x_1990, f_1989) H locs ls ⟨hP.sub (ws' := [(h0, .inr (0, [.ref h1, .ref h2, .ref h3, .ref h4, .ref h5, .ref h6, .int a0, .int a1, .int a2, .int a3])), (h6, .inl (cI, 9, .inl f_1989)), (h7, .inr (7, [.ref h8, .ref h9, .ref h10, .ref h11, .ref h12, .ref h13, .int a4, .int a5, .int a6, .int a7, .int a8, .int a9, .int a10, .int a11])), (h8, .inl (cI, 9, .inl g6)), (h9, .inl (cI, 9, .inl g7))]) [1, 0, 2, 3, 4] rfl, hD.sub (ws' := [(h0, .inr (0, [.ref h1, .ref h2, .ref h3, .ref h4, .ref h5, .ref h6, .int a0, .int a1, .int a2, .int a3])), (h6, .inl (cI, 9, .inl f_1989)), (h7, .inr (7, [.ref h8, .ref h9, .ref h10, .ref h11, .ref h12, .ref h13, .int a4, .int a5, .int a6, .int a7, .int a8, .int a9, .int a10, .int a11])), (h8, .inl (cI, 9, .inl g6)), (h9, .inl (cI, 9, .inl g7))]) [1, 0, 2, 3, 4] (by decide) rfl, hS, lv_sub hl [0, 1, 2, 3] rfl, (rg_mono hx_1990 (by decide) (by decide))⟩ (by show ((8) - x_1990.toInt).toNat < ((8) - x_1936.toInt).toNat; have ha := h_1967; simp only [rg] at ha; omega)
def v_fill : List Cond := Cond.code yJ7_fill_53178 cJ7_fill_53178 4 none :: ([] ++ ([]))
theorem k_fill : GoodIn lw_tbl v_fill := gd_c (List.mem_of_getElem? (i := 209) (by decide +kernel)) rfl (goodIn_app gd_nil gd_nil)
set_option maxHeartbeats 600000 in
set_option maxRecDepth 100000 in
/-- Arrays.fill: all places hold the number -/
theorem c_fill (l : Launch) (dC : Nat → ClassId) (dI : Nat → Nat → Nat) (cB cI cJ cZ cP : ClassId) (h0 : Nat) (k0 : Nat) (g0 : Nat → Int32) (p0 : Int32) (hk : k0 < 2 ^ 31) (sz : Nat) : Met l yJ7_fill_53178 v_fill ({ frames := 0, cells := 0, slots := 0, locals := 0 }) (va_Pc [.ref h0, .int p0] (fun U => U.heap.size = sz ∧ va_P (dC, dI) vwCl [(h0, .inl (cI, k0, .inl g0))] U.heap ∧ va_K (dC, dI) vwCl (ty5 cB cI cJ cZ cP) U ∧ va_D (fun _ => True) [(h0, .inl (cI, k0, .inl g0))])) (va_Qv (fun _ : Unit => True) (fun _ t => ∃ z0 : Nat → Int32, z0 = (fun _ => p0) ∧ va_P (dC, dI) vwCl [(h0, .inl (cI, k0, .inl z0))] t.heap ∧ va_D (va_A [(h0, .inl (cI, k0, .inl g0))] sz) [(h0, .inl (cI, k0, .inl z0))]) (va_A [(h0, .inl (cI, k0, .inl g0))] sz)) 0 0 (va_A [(h0, .inl (cI, k0, .inl g0))] sz) := by
  refine Met.ofW (cc := cJ7_fill_53178) (maxL := 4) (ret := none) (by decide) rfl ?_
  intro p e s m args below meth c s₁ B hml hv
  obtain ⟨rfl, hsz, hP, hK, hD0⟩ := hv
  have hx := B.exec
  have hb := B.bytes
  have hr := B.returns
  have hts := atoms_spec (ws := v_fill) B.pre
  have hlocks := B.notSynchronized
  subst hsz
  have hD := hD0.self (sz := s.heap.size)
  generalize hAe : va_A [(h0, .inl (cI, k0, .inl g0))] s.heap.size = A at hD ⊢
  have hP : va_P (dC, dI) vwCl [(h0, .inl (cI, k0, .inl g0))] s.heap := hP
  have hl := lv_entry ([.ref h0, .int p0]) (n := 4) (Nat.le_of_ble_eq_true rfl)
  rw [lg_entry_eq]
  generalize (lg_sl ([.ref h0, .int p0]) ++ List.replicate (4 - (lg_sl ([.ref h0, .int p0])).length) Slot.unset).toArray = ls at hl ⊢
  have hl : lv_has ls 4 [(0, .ref h0), (1, .int p0)] := hl
  refine W_gen (A := A) hP (fun H locs hP hS => ?_)
  refine lv_iconst (v := 0) hx hb dJ7_fill_53178_0 (by decide) ?_
  refine lv_istore_n (lv' := [(2, .int 0), (0, .ref h0), (1, .int p0)]) hx hb dJ7_fill_53178_1 rfl hl (by decide) rfl (fun ls hl => ?_)
  refine lv_aload_n hx hb dJ7_fill_53178_2 rfl (lv_at hl 1 rfl) ?_
  refine va_alen (v := nI k0) hx hb hK hP 0 1 rfl rfl rfl dJ7_fill_53178_3 ?_
  refine lv_istore_n (lv' := [(3, .int (nI k0)), (2, .int 0), (0, .ref h0), (1, .int p0)]) hx hb dJ7_fill_53178_4 rfl hl (by decide) rfl (fun ls hl => ?_)
  refine W_loop (σ := Nat → Int32) k0 (fun i u H locs ls => va_P (dC, dI) vwCl [(h0, .inl (cI, k0, .inl u))] H ∧ va_D A [(h0, .inl (cI, k0, .inl u))] ∧ va_S A s.heap H locs ∧ lv_has ls 4 [(2, .int (nI i)), (3, .int (nI k0)), (0, .ref h0), (1, .int p0)] ∧ ∀ j, j < i → u j = p0) 5 [] ?_ ?_ 0 (Nat.zero_le _) g0 H locs ls ⟨hP, hD, hS, lv_sub hl [1, 0, 2, 3] rfl, fun j hj => absurd hj (Nat.not_lt_zero j)⟩
  · rintro i hi f H locs ls ⟨hP, hD, hS, hl, hv⟩ ih
    have hl : lv_has ls 4 [(2, .int (nI i)), (3, .int (nI k0)), (0, .ref h0), (1, .int p0)] := hl
    refine lv_iload_n hx hb dJ7_fill_53178_5 rfl (lv_at hl 0 rfl) ?_
    refine lv_iload_n hx hb dJ7_fill_53178_6 rfl (lv_at hl 1 rfl) ?_
    refine lv_icmp_ge (tgt := 20) hx hb dJ7_fill_53178_7 (by decide) (fun cz => absurd ((nI_leI (a := k0) (b := i) (by omega) (by omega)).mp cz) (by omega)) (fun _ => ?_)
    refine lv_aload_n hx hb dJ7_fill_53178_10 rfl (lv_at hl 2 rfl) ?_
    refine lv_iload_n hx hb dJ7_fill_53178_11 rfl (lv_at hl 0 rfl) ?_
    refine lv_iload_n hx hb dJ7_fill_53178_12 rfl (lv_at hl 3 rfl) ?_
    refine va_iast hx hb hK hP hD hS 0 1 rfl rfl (vp_in_nI hi hk) dJ7_fill_53178_13 (fun H locs hP hD hS => ?_)
    refine lv_iinc (v := nI (i + 1)) (lv' := [(2, .int (nI (i + 1))), (3, .int (nI k0)), (0, .ref h0), (1, .int p0)]) hx hb dJ7_fill_53178_14 hl (k := 0) rfl (nI_1 i) (by decide) rfl (fun ls hl => ?_)
    refine lv_goto (tgt := 5) hx hb dJ7_fill_53178_17 (by decide) ?_
    refine ih (upd f (nI i).toNatClampNeg p0) H locs ls ⟨hP, hD, hS, hl, fun j hj => ?_⟩
    rw [nI_clamp (by omega)]
    rcases Nat.lt_succ_iff_lt_or_eq.mp hj with h | h
    · rw [pk_un (by omega)]; exact hv j h
    · subst h; exact pk_us
  · rintro f H locs ls ⟨hP, hD, hS, hl, hv⟩
    have hl : lv_has ls 4 [(2, .int (nI k0)), (3, .int (nI k0)), (0, .ref h0), (1, .int p0)] := hl
    refine lv_iload_n hx hb dJ7_fill_53178_5 rfl (lv_at hl 0 rfl) ?_
    refine lv_iload_n hx hb dJ7_fill_53178_6 rfl (lv_at hl 1 rfl) ?_
    refine lv_icmp_ge (tgt := 20) hx hb dJ7_fill_53178_7 (by decide) (fun _ => ?_) (fun cz => absurd (Int32.le_refl _) cz)
    have hP9 : va_P (dC, dI) vwCl [(h0, .inl (cI, k0, .inl (fun _ => p0)))] H := by
      intro k q hq
      match k, hq with
      | 0, hq =>
        cases hq
        have h1 : H[h0]? = some (vp_cell cI (k0, .inl f)) := hP 0 _ rfl
        show H[h0]? = some (vp_cell cI (k0, .inl (fun _ => p0)))
        rw [h1, ar_ext hv]
      | k + 1, hq => simp at hq
    have hD9 : va_D A [(h0, .inl (cI, k0, .inl (fun _ => p0)))] := by
      refine ⟨fun i j p q hi hj _ => ?_, fun k q hq => ?_⟩
      · have a := (List.getElem?_eq_some_iff.mp hi).1
        have b := (List.getElem?_eq_some_iff.mp hj).1
        simp at a b
        omega
      · match k, hq with
        | 0, hq => cases hq; exact hD.2 0 (h0, .inl (cI, k0, .inl f)) rfl
        | k + 1, hq => simp at hq
    exact W.vret hx hb hr (fun t ht hW => ⟨⟨(), rfl, trivial, ⟨fun _ => p0, rfl, by rw [ht]; exact hP9, hD9⟩⟩, hS.F ht⟩) hS.2.2 dJ7_fill_53178_20
def v_s_X0_numberPairs : List Cond := Cond.code yX0_numberPairs cX0_numberPairs 5 none :: ([Cond.fieldLink RX0 24 "MayRings$Families" "bits" "[I"] ++ (wsX00 ++ ([])))
theorem k_s_X0_numberPairs : GoodIn lw_tbl v_s_X0_numberPairs := gd_c (List.mem_of_getElem? (i := 1034) (by decide +kernel)) rfl (goodIn_app (gd_c (List.mem_of_getElem? (i := 504) (by decide +kernel)) rfl (gd_nil)) (goodIn_app kfX0 (gd_nil)))
set_option maxHeartbeats 2000000 in
set_option maxRecDepth 100000 in
theorem c_s_X0_numberPairs (l : Launch) (dC : Nat → ClassId) (dI : Nat → Nat → Nat) (cB cI cJ cZ cP : ClassId) (h0 : Nat) (h1 : Nat) (h2 : Nat) (h3 : Nat) (h4 : Nat) (h5 : Nat) (g4 : Nat → Int32) (h6 : Nat) (a0 : Int32) (a1 : Int32) (a2 : Int32) (a3 : Int32) (p0 : Int32) (sz : Nat) : Met l yX0_numberPairs v_s_X0_numberPairs ({ frames := 0, cells := 0, slots := 0, locals := 0 }) (va_Pc [.ref h0, .int p0] (fun U => U.heap.size = sz ∧ va_P (dC, dI) vwCl [(h0, .inr (0, [.ref h1, .ref h2, .ref h3, .ref h4, .ref h5, .ref h6, .int a0, .int a1, .int a2, .int a3])), (h5, .inl (cI, 81, .inl g4))] U.heap ∧ va_K (dC, dI) vwCl (ty5 cB cI cJ cZ cP) U ∧ va_D (fun _ => True) [(h0, .inr (0, [.ref h1, .ref h2, .ref h3, .ref h4, .ref h5, .ref h6, .int a0, .int a1, .int a2, .int a3])), (h5, .inl (cI, 81, .inl g4))])) (va_Qv (fun _ : Unit => True) (fun _ t => ∃ (z0 : Nat → Int32), va_P (dC, dI) vwCl [(h0, .inr (0, [.ref h1, .ref h2, .ref h3, .ref h4, .ref h5, .ref h6, .int a0, .int a1, .int a2, .int a3])), (h5, .inl (cI, 81, .inl z0))] t.heap ∧ va_D (va_A [(h0, .inr (0, [.ref h1, .ref h2, .ref h3, .ref h4, .ref h5, .ref h6, .int a0, .int a1, .int a2, .int a3])), (h5, .inl (cI, 81, .inl g4))] sz) [(h0, .inr (0, [.ref h1, .ref h2, .ref h3, .ref h4, .ref h5, .ref h6, .int a0, .int a1, .int a2, .int a3])), (h5, .inl (cI, 81, .inl z0))]) (va_A [(h0, .inr (0, [.ref h1, .ref h2, .ref h3, .ref h4, .ref h5, .ref h6, .int a0, .int a1, .int a2, .int a3])), (h5, .inl (cI, 81, .inl g4))] sz)) 0 0 (va_A [(h0, .inr (0, [.ref h1, .ref h2, .ref h3, .ref h4, .ref h5, .ref h6, .int a0, .int a1, .int a2, .int a3])), (h5, .inl (cI, 81, .inl g4))] sz) := by
  refine Met.ofW (cc := cX0_numberPairs) (maxL := 5) (ret := none) (by decide) rfl ?_
  intro p e s m args below meth c s₁ B hml hv
  obtain ⟨rfl, hsz, hP, hK, hD0⟩ := hv
  have hx := B.exec
  have hb := B.bytes
  have hr := B.returns
  have hts := atoms_spec (ws := v_s_X0_numberPairs) B.pre
  have hown : s.vm.findClass RX0 = some m.cls := findClass_of_methodNamed B.named
  have hlocks := B.notSynchronized
  have hinX0 : ∀ w ∈ wsX00, w ∈ v_s_X0_numberPairs := fun _ h => List.mem_cons_of_mem _ (List.mem_append_right _ (List.mem_append_left _ h))
  subst hsz
  have hD := hD0.self (sz := s.heap.size)
  generalize hAe : va_A [(h0, .inr (0, [.ref h1, .ref h2, .ref h3, .ref h4, .ref h5, .ref h6, .int a0, .int a1, .int a2, .int a3])), (h5, .inl (cI, 81, .inl g4))] s.heap.size = A at hD ⊢
  have hA : ∀ q : Nat, s.heap.size ≤ q → A q := fun q h => by rw [← hAe]; exact Or.inr h
  have hP : va_P (dC, dI) vwCl [(h0, .inr (0, [.ref h1, .ref h2, .ref h3, .ref h4, .ref h5, .ref h6, .int a0, .int a1, .int a2, .int a3])), (h5, .inl (cI, 81, .inl g4))] s.heap := hP
  have hl := lv_entry ([.ref h0, .int p0]) (n := 5) (Nat.le_of_ble_eq_true rfl)
  rw [lg_entry_eq]
  generalize (lg_sl ([.ref h0, .int p0]) ++ List.replicate (5 - (lg_sl ([.ref h0, .int p0])).length) Slot.unset).toArray = ls at hl ⊢
  have hl : lv_has ls 5 [(0, .ref h0), (1, .int p0)] := hl
  refine W_gen (A := A) hP (fun H locs hP hS => ?_)
  refine lv_iconst (v := 0) hx hb dX0_numberPairs_0 (by decide) ?_
  refine lv_istore_n (lv' := [(2, .int 0), (0, .ref h0), (1, .int p0)]) hx hb dX0_numberPairs_1 rfl hl (by decide) rfl (fun ls hl => ?_)
  refine lv_iconst (v := 0) hx hb dX0_numberPairs_2 (by decide) ?_
  refine lv_istore_n (lv' := [(3, .int 0), (2, .int 0), (0, .ref h0), (1, .int p0)]) hx hb dX0_numberPairs_3 rfl hl (by decide) rfl (fun ls hl => ?_)
  refine W_loopM (σ := Int32 × (Nat → Int32) × Int32) (fun u H locs ls => va_P (dC, dI) vwCl [(h0, .inr (0, [.ref h1, .ref h2, .ref h3, .ref h4, .ref h5, .ref h6, .int a0, .int a1, .int a2, .int a3])), (h5, .inl (cI, 81, .inl u.2.1))] H ∧ va_D A [(h0, .inr (0, [.ref h1, .ref h2, .ref h3, .ref h4, .ref h5, .ref h6, .int a0, .int a1, .int a2, .int a3])), (h5, .inl (cI, 81, .inl u.2.1))] ∧ va_S A s.heap H locs ∧ lv_has ls 5 [(3, .int u.1), (2, .int u.2.2), (0, .ref h0), (1, .int p0)] ∧ rg (0) (9) u.1) (fun u => ((9) - u.1.toInt).toNat) 4 [] ?_ (0, g4, 0) H locs ls ⟨hP, hD, hS, hl, (rg_mono (rg_k (x := 0) (c := 0) (by decide)) (by decide) (by decide))⟩
  rintro ⟨x_2389, f_2390, x_2391⟩ H locs ls ⟨hP, hD, hS, hl, hx_2389⟩ ih_2627
  replace hP : va_P (dC, dI) vwCl [(h0, .inr (0, [.ref h1, .ref h2, .ref h3, .ref h4, .ref h5, .ref h6, .int a0, .int a1, .int a2, .int a3])), (h5, .inl (cI, 81, .inl f_2390))] H := hP
  replace hD : va_D A [(h0, .inr (0, [.ref h1, .ref h2, .ref h3, .ref h4, .ref h5, .ref h6, .int a0, .int a1, .int a2, .int a3])), (h5, .inl (cI, 81, .inl f_2390))] := hD
  replace hl : lv_has ls 5 [(3, .int x_2389), (2, .int x_2391), (0, .ref h0), (1, .int p0)] := hl
  replace hx_2389 : rg (0) (9) x_2389 := hx_2389
  refine lv_iload_n hx hb dX0_numberPairs_4 rfl (lv_at hl 0 rfl) ?_
  refine lv_bipush (v := 9) hx hb dX0_numberPairs_5 (by decide) ?_
  refine lv_icmp_ge (tgt := 78) hx hb dX0_numberPairs_7 (by decide) (fun c_2628 => ?_) (fun c_2628 => ?_)
  · skip
    have h_2629 : rg (9) (9) x_2389 := by have ha := hx_2389; have hb_ := (rg_k (x := 9) (c := 9) (by decide)); simp only [rg, fa_lt, fa_le, fa_eq, (by decide : (9 : Int32).toInt = 9)] at ha hb_ c_2628; simp only [rg]; omega
    have hP9 := hP.sub (ws' := [(h0, .inr (0, [.ref h1, .ref h2, .ref h3, .ref h4, .ref h5, .ref h6, .int a0, .int a1, .int a2, .int a3])), (h5, .inl (cI, 81, .inl f_2390))]) [0, 1] rfl
    have hD9 := hD.sub (ws' := [(h0, .inr (0, [.ref h1, .ref h2, .ref h3, .ref h4, .ref h5, .ref h6, .int a0, .int a1, .int a2, .int a3])), (h5, .inl (cI, 81, .inl f_2390))]) [0, 1] (by decide) rfl
    exact W.vret hx hb hr (fun t ht hW => ⟨⟨(), rfl, trivial, ⟨f_2390, by rw [ht]; exact hP9, hD9⟩⟩, hS.F ht⟩) hS.2.2 dX0_numberPairs_78
  · skip
    have h_2630 : rg (0) (8) x_2389 := by have ha := hx_2389; have hb_ := (rg_k (x := 9) (c := 9) (by decide)); simp only [rg, fa_lt, fa_le, fa_eq, (by decide : (9 : Int32).toInt = 9)] at ha hb_ c_2628; simp only [rg]; omega
    refine lv_iconst (v := 0) hx hb dX0_numberPairs_10 (by decide) ?_
    refine lv_istore (lv' := [(4, .int 0), (3, .int x_2389), (2, .int x_2391), (0, .ref h0), (1, .int p0)]) hx hb dX0_numberPairs_11 hl (by decide) rfl (fun ls hl => ?_)
    refine W_loopM (σ := Int32 × (Nat → Int32) × Int32) (fun u H locs ls => va_P (dC, dI) vwCl [(h0, .inr (0, [.ref h1, .ref h2, .ref h3, .ref h4, .ref h5, .ref h6, .int a0, .int a1, .int a2, .int a3])), (h5, .inl (cI, 81, .inl u.2.1))] H ∧ va_D A [(h0, .inr (0, [.ref h1, .ref h2, .ref h3, .ref h4, .ref h5, .ref h6, .int a0, .int a1, .int a2, .int a3])), (h5, .inl (cI, 81, .inl u.2.1))] ∧ va_S A s.heap H locs ∧ lv_has ls 5 [(4, .int u.1), (3, .int x_2389), (2, .int u.2.2), (0, .ref h0), (1, .int p0)] ∧ rg (0) (8) u.1) (fun u => ((8) - u.1.toInt).toNat) 13 [] ?_ (0, f_2390, x_2391) H locs ls ⟨hP, hD, hS, hl, (rg_mono (rg_k (x := 0) (c := 0) (by decide)) (by decide) (by decide))⟩
    rintro ⟨x_2817, f_2818, x_2819⟩ H locs ls ⟨hP, hD, hS, hl, hx_2817⟩ ih_2841
    replace hP : va_P (dC, dI) vwCl [(h0, .inr (0, [.ref h1, .ref h2, .ref h3, .ref h4, .ref h5, .ref h6, .int a0, .int a1, .int a2, .int a3])), (h5, .inl (cI, 81, .inl f_2818))] H := hP
    replace hD : va_D A [(h0, .inr (0, [.ref h1, .ref h2, .ref h3, .ref h4, .ref h5, .ref h6, .int a0, .int a1, .int a2, .int a3])), (h5, .inl (cI, 81, .inl f_2818))] := hD
    replace hl : lv_has ls 5 [(4, .int x_2817), (3, .int x_2389), (2, .int x_2819), (0, .ref h0), (1, .int p0)] := hl
    replace hx_2817 : rg (0) (8) x_2817 := hx_2817
    refine lv_iload hx hb dX0_numberPairs_13 (lv_at hl 0 rfl) ?_
    refine lv_iload_n hx hb dX0_numberPairs_15 rfl (lv_at hl 1 rfl) ?_
    refine lv_icmp_ge (tgt := 72) hx hb dX0_numberPairs_16 (by decide) (fun c_2842 => ?_) (fun c_2842 => ?_)
    · skip
      obtain ⟨x_2843, ex_2843⟩ : ∃ y : Int32, y = x_2389 + Int32.ofInt (1) := ⟨_, rfl⟩
      have hx_2843 : rg (1) (9) x_2843 := by rw [ex_2843]; exact rg_mono (rg_add h_2630 (rg_k (x := Int32.ofInt (1)) (c := 1) (by decide)) (by decide) (by decide)) (by decide) (by decide)
      have qx_2843 : x_2843.toInt = x_2389.toInt + (1) := by rw [ex_2843]; exact rg_addE h_2630 (rg_k (x := Int32.ofInt (1)) (c := 1) (by decide)) (by decide) (by decide) (by decide)
      refine lv_iinc (v := x_2843) (lv' := [(3, .int x_2843), (4, .int x_2817), (2, .int x_2819), (0, .ref h0), (1, .int p0)]) hx hb dX0_numberPairs_72 hl (k := 1) rfl (ex_2843.symm) (by decide) rfl (fun ls hl => ?_)
      clear ex_2843
      refine lv_goto (tgt := 4) hx hb dX0_numberPairs_75 (by decide) ?_
      exact ih_2627 (x_2843, f_2818, x_2819) H locs ls ⟨hP.sub (ws' := [(h0, .inr (0, [.ref h1, .ref h2, .ref h3, .ref h4, .ref h5, .ref h6, .int a0, .int a1, .int a2, .int a3])), (h5, .inl (cI, 81, .inl f_2818))]) [0, 1] rfl, hD.sub (ws' := [(h0, .inr (0, [.ref h1, .ref h2, .ref h3, .ref h4, .ref h5, .ref h6, .int a0, .int a1, .int a2, .int a3])), (h5, .inl (cI, 81, .inl f_2818))]) [0, 1] (by decide) rfl, hS, lv_sub hl [0, 2, 3, 4] rfl, (rg_mono hx_2843 (by decide) (by decide))⟩ (by show ((9) - x_2843.toInt).toNat < ((9) - x_2389.toInt).toNat; have ha := h_2630; simp only [rg] at ha; omega)
    · skip
      have h_2844 : rg (0) (7) x_2817 := by have ha := hx_2817; have hb_ := h_2630; simp only [rg, fa_lt, fa_le, fa_eq] at ha hb_ c_2842; simp only [rg]; omega
      have h_2845 : rg (1) (8) x_2389 := by have ha := hx_2817; have hb_ := h_2630; simp only [rg, fa_lt, fa_le, fa_eq] at ha hb_ c_2842; simp only [rg]; omega
      refine lv_iload_n hx hb dX0_numberPairs_19 rfl (lv_at hl 4 rfl) ?_
      refine lv_iload_n hx hb dX0_numberPairs_20 rfl (lv_at hl 1 rfl) ?_
      refine lv_ishr hx hb dX0_numberPairs_21 ?_
      refine lv_topi (fun x_2846 ex_2846 => ?_)
      refine lv_iload_n hx hb dX0_numberPairs_22 rfl (lv_at hl 4 rfl) ?_
      refine lv_iload hx hb dX0_numberPairs_23 (lv_at hl 0 rfl) ?_
      refine lv_ishr hx hb dX0_numberPairs_25 ?_
      refine lv_topi (fun x_2847 ex_2847 => ?_)
      refine lv_iand hx hb dX0_numberPairs_26 ?_
      refine lv_topi (fun x_2848 ex_2848 => ?_)
      refine lv_iconst (v := 1) hx hb dX0_numberPairs_27 (by decide) ?_
      refine lv_iand hx hb dX0_numberPairs_28 ?_
      refine lv_topi (fun x_2849 ex_2849 => ?_)
      have hx_2849 : rg (0) (1) x_2849 := by rw [ex_2849]; exact rg_mono (rg_andr (b := 1) (rg_mono (rg_k (x := 1) (c := 1) (by decide)) (by decide) (by decide))) (by decide) (by decide)
      refine lv_iconst (v := 1) hx hb dX0_numberPairs_29 (by decide) ?_
      refine lv_icmp_ne (tgt := 66) hx hb dX0_numberPairs_30 (by decide) (fun c_2850 => ?_) (fun c_2850 => ?_)
      · skip
        have h_2851 : rg (0) (0) x_2849 := by have ha := hx_2849; have hb_ := (rg_k (x := 1) (c := 1) (by decide)); simp only [rg, fa_lt, fa_le, fa_eq, (by decide : (1 : Int32).toInt = 1)] at ha hb_ c_2850; simp only [rg]; omega
        obtain ⟨x_2852, ex_2852⟩ : ∃ y : Int32, y = x_2817 + Int32.ofInt (1) := ⟨_, rfl⟩
        have hx_2852 : rg (1) (8) x_2852 := by rw [ex_2852]; exact rg_mono (rg_add h_2844 (rg_k (x := Int32.ofInt (1)) (c := 1) (by decide)) (by decide) (by decide)) (by decide) (by decide)
        have qx_2852 : x_2852.toInt = x_2817.toInt + (1) := by rw [ex_2852]; exact rg_addE h_2844 (rg_k (x := Int32.ofInt (1)) (c := 1) (by decide)) (by decide) (by decide) (by decide)
        refine lv_iinc (v := x_2852) (lv' := [(4, .int x_2852), (3, .int x_2389), (2, .int x_2819), (0, .ref h0), (1, .int p0)]) hx hb dX0_numberPairs_66 hl (k := 0) rfl (ex_2852.symm) (by decide) rfl (fun ls hl => ?_)
        clear ex_2852
        refine lv_goto (tgt := 13) hx hb dX0_numberPairs_69 (by decide) ?_
        exact ih_2841 (x_2852, f_2818, x_2819) H locs ls ⟨hP.sub (ws' := [(h0, .inr (0, [.ref h1, .ref h2, .ref h3, .ref h4, .ref h5, .ref h6, .int a0, .int a1, .int a2, .int a3])), (h5, .inl (cI, 81, .inl f_2818))]) [0, 1] rfl, hD.sub (ws' := [(h0, .inr (0, [.ref h1, .ref h2, .ref h3, .ref h4, .ref h5, .ref h6, .int a0, .int a1, .int a2, .int a3])), (h5, .inl (cI, 81, .inl f_2818))]) [0, 1] (by decide) rfl, hS, lv_sub hl [0, 1, 2, 3, 4] rfl, (rg_mono hx_2852 (by decide) (by decide))⟩ (by show ((8) - x_2852.toInt).toNat < ((8) - x_2817.toInt).toNat; have ha := h_2844; simp only [rg] at ha; omega)
      · skip
        have h_2853 : rg (1) (1) x_2849 := by have ha := hx_2849; have hb_ := (rg_k (x := 1) (c := 1) (by decide)); simp only [rg, fa_lt, fa_le, fa_eq, (by decide : (1 : Int32).toInt = 1)] at ha hb_ c_2850; simp only [rg]; omega
        refine lv_aload_n hx hb dX0_numberPairs_33 rfl (lv_at hl 3 rfl) ?_
        refine va_get (D := (dC, dI)) (ci := 0) (v := .ref h5) (C := RX0) (T := TX0) (N := 10) hx hb hts hinX0 hown hK hP 0 rfl rfl 4 (by decide) (hts (.fieldLink RX0 24 "MayRings$Families" "bits" "[I") (List.mem_of_getElem? (i := 1) rfl)) (fun _ h9 => h9) rfl dX0_numberPairs_34 ?_
        refine lv_iload_n hx hb dX0_numberPairs_37 rfl (lv_at hl 1 rfl) ?_
        refine lv_bipush (v := 9) hx hb dX0_numberPairs_38 (by decide) ?_
        refine lv_imul hx hb dX0_numberPairs_40 ?_
        refine lv_topi (fun x_2854 ex_2854 => ?_)
        have hx_2854 : rg (9) (72) x_2854 := by rw [ex_2854]; exact rg_mono (rg_mul h_2845 (rg_k (x := 9) (c := 9) (by decide)) (by decide) (by decide) (by decide)) (by decide) (by decide)
        refine lv_iload hx hb dX0_numberPairs_41 (lv_at hl 0 rfl) ?_
        refine lv_iadd hx hb dX0_numberPairs_43 ?_
        refine lv_topi (fun x_2855 ex_2855 => ?_)
        have hx_2855 : rg (9) (79) x_2855 := by rw [ex_2855]; exact rg_mono (rg_add hx_2854 h_2844 (by decide) (by decide)) (by decide) (by decide)
        have qx_2855 : x_2855.toInt = x_2854.toInt + x_2817.toInt := by rw [ex_2855]; exact rg_addQ hx_2854 h_2844 (by decide) (by decide)
        refine lv_iconst (v := 1) hx hb dX0_numberPairs_44 (by decide) ?_
        refine lv_iload_n hx hb dX0_numberPairs_45 rfl (lv_at hl 2 rfl) ?_
        refine lv_ishl hx hb dX0_numberPairs_46 ?_
        refine lv_topi (fun x_2856 ex_2856 => ?_)
        refine va_iast hx hb hK hP hD hS 1 1 rfl rfl (rg_in (n := 81) (rg_mono hx_2855 (by decide) (by decide))) dX0_numberPairs_47 (fun H locs hP hD hS => ?_)
        obtain ⟨f_2857, ef_2857⟩ : ∃ f : Nat → Int32, f = upd f_2818 (x_2855 : Int32).toNatClampNeg x_2856 := ⟨_, rfl⟩
        rw [← ef_2857] at hP hD
        clear ef_2857
        replace hP : va_P (dC, dI) vwCl [(h0, .inr (0, [.ref h1, .ref h2, .ref h3, .ref h4, .ref h5, .ref h6, .int a0, .int a1, .int a2, .int a3])), (h5, .inl (cI, 81, .inl f_2857))] H := hP
        replace hD : va_D A [(h0, .inr (0, [.ref h1, .ref h2, .ref h3, .ref h4, .ref h5, .ref h6, .int a0, .int a1, .int a2, .int a3])), (h5, .inl (cI, 81, .inl f_2857))] := hD
        refine lv_aload_n hx hb dX0_numberPairs_48 rfl (lv_at hl 3 rfl) ?_
        refine va_get (D := (dC, dI)) (ci := 0) (v := .ref h5) (C := RX0) (T := TX0) (N := 10) hx hb hts hinX0 hown hK hP 0 rfl rfl 4 (by decide) (hts (.fieldLink RX0 24 "MayRings$Families" "bits" "[I") (List.mem_of_getElem? (i := 1) rfl)) (fun _ h9 => h9) rfl dX0_numberPairs_49 ?_
        refine lv_iload hx hb dX0_numberPairs_52 (lv_at hl 0 rfl) ?_
        refine lv_bipush (v := 9) hx hb dX0_numberPairs_54 (by decide) ?_
        refine lv_imul hx hb dX0_numberPairs_56 ?_
        refine lv_topi (fun x_2858 ex_2858 => ?_)
        have hx_2858 : rg (0) (63) x_2858 := by rw [ex_2858]; exact rg_mono (rg_mul h_2844 (rg_k (x := 9) (c := 9) (by decide)) (by decide) (by decide) (by decide)) (by decide) (by decide)
        refine lv_iload_n hx hb dX0_numberPairs_57 rfl (lv_at hl 1 rfl) ?_
        refine lv_iadd hx hb dX0_numberPairs_58 ?_
        refine lv_topi (fun x_2859 ex_2859 => ?_)
        have hx_2859 : rg (1) (71) x_2859 := by rw [ex_2859]; exact rg_mono (rg_add hx_2858 h_2845 (by decide) (by decide)) (by decide) (by decide)
        have qx_2859 : x_2859.toInt = x_2858.toInt + x_2389.toInt := by rw [ex_2859]; exact rg_addQ hx_2858 h_2845 (by decide) (by decide)
        refine lv_iconst (v := 1) hx hb dX0_numberPairs_59 (by decide) ?_
        refine lv_iload_n hx hb dX0_numberPairs_60 rfl (lv_at hl 2 rfl) ?_
        refine lv_ishl hx hb dX0_numberPairs_61 ?_
        refine tp_v (.int x_2856) (congrArg Value.int (ex_2856.symm)) ?_
        refine va_iast hx hb hK hP hD hS 1 1 rfl rfl (rg_in (n := 81) (rg_mono hx_2859 (by decide) (by decide))) dX0_numberPairs_62 (fun H locs hP hD hS => ?_)
        obtain ⟨f_2860, ef_2860⟩ : ∃ f : Nat → Int32, f = upd f_2857 (x_2859 : Int32).toNatClampNeg x_2856 := ⟨_, rfl⟩
        rw [← ef_2860] at hP hD
        clear ef_2860
        replace hP : va_P (dC, dI) vwCl [(h0, .inr (0, [.ref h1, .ref h2, .ref h3, .ref h4, .ref h5, .ref h6, .int a0, .int a1, .int a2, .int a3])), (h5, .inl (cI, 81, .inl f_2860))] H := hP
        replace hD : va_D A [(h0, .inr (0, [.ref h1, .ref h2, .ref h3, .ref h4, .ref h5, .ref h6, .int a0, .int a1, .int a2, .int a3])), (h5, .inl (cI, 81, .inl f_2860))] := hD
        obtain ⟨x_2861, ex_2861⟩ : ∃ y : Int32, y = x_2819 + Int32.ofInt (1) := ⟨_, rfl⟩
        refine lv_iinc (v := x_2861) (lv' := [(2, .int x_2861), (4, .int x_2817), (3, .int x_2389), (0, .ref h0), (1, .int p0)]) hx hb dX0_numberPairs_63 hl (k := 2) rfl (ex_2861.symm) (by decide) rfl (fun ls hl => ?_)
        clear ex_2861
        obtain ⟨x_2862, ex_2862⟩ : ∃ y : Int32, y = x_2817 + Int32.ofInt (1) := ⟨_, rfl⟩
        have hx_2862 : rg (1) (8) x_2862 := by rw [ex_2862]; exact rg_mono (rg_add h_2844 (rg_k (x := Int32.ofInt (1)) (c := 1) (by decide)) (by decide) (by decide)) (by decide) (by decide)
        have qx_2862 : x_2862.toInt = x_2817.toInt + (1) := by rw [ex_2862]; exact rg_addE h_2844 (rg_k (x := Int32.ofInt (1)) (c := 1) (by decide)) (by decide) (by decide) (by decide)
        refine lv_iinc (v := x_2862) (lv' := [(4, .int x_2862), (2, .int x_2861), (3, .int x_2389), (0, .ref h0), (1, .int p0)]) hx hb dX0_numberPairs_66 hl (k := 1) rfl (ex_2862.symm) (by decide) rfl (fun ls hl => ?_)
        clear ex_2862
        refine lv_goto (tgt := 13) hx hb dX0_numberPairs_69 (by decide) ?_
        exact ih_2841 (x_2862, f_2860, x_2861) H locs ls ⟨hP.sub (ws' := [(h0, .inr (0, [.ref h1, .ref h2, .ref h3, .ref h4, .ref h5, .ref h6, .int a0, .int a1, .int a2, .int a3])), (h5, .inl (cI, 81, .inl f_2860))]) [0, 1] rfl, hD.sub (ws' := [(h0, .inr (0, [.ref h1, .ref h2, .ref h3, .ref h4, .ref h5, .ref h6, .int a0, .int a1, .int a2, .int a3])), (h5, .inl (cI, 81, .inl f_2860))]) [0, 1] (by decide) rfl, hS, lv_sub hl [0, 2, 1, 3, 4] rfl, (rg_mono hx_2862 (by decide) (by decide))⟩ (by show ((8) - x_2862.toInt).toNat < ((8) - x_2817.toInt).toNat; have ha := h_2844; simp only [rg] at ha; omega)
