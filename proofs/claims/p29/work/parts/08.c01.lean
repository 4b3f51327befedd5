def v_s_X0_numberPairs : List Cond := Cond.code yX0_numberPairs cX0_numberPairs 5 none :: ([Cond.fieldLink RX0 24 "MayRings$Families" "bits" "[I"] ++ (wsX00 ++ ([])))
theorem k_s_X0_numberPairs : GoodIn lw_tbl v_s_X0_numberPairs := gd_c (List.mem_of_getElem? (i := 1034) (by decide +kernel)) rfl (goodIn_app (gd_c (List.mem_of_getElem? (i := 504) (by decide +kernel)) rfl (gd_nil)) (goodIn_app kfX0 (gd_nil)))
set_option maxHeartbeats 2000000 in
set_option maxRecDepth 100000 in
theorem c_s_X0_numberPairs (l : Launch) (dC : Nat → ClassId) (dI : Nat → Nat → Nat) (cB cI cJ cZ cP : ClassId) (h0 : Nat) (h1 : Nat) (h2 : Nat) (h3 : Nat) (h4 : Nat) (h5 : Nat) (g4 : Nat → Int32) (h6 : Nat) (a0 : Int32) (a1 : Int32) (a2 : Int32) (a3 : Int32) (p0 : Int32) (sz : Nat) : Met l yX0_numberPairs v_s_X0_numberPairs ({ frames := 0, cells := 0, slots := 0, locals := 0 }) (va_Pc [.ref h0, .int p0] (fun U => U.heap.size = sz ∧ va_P (dC, dI) vwCl [(h0, .inr (0, [.ref h1, .ref h2, .ref h3, .ref h4, .ref h5, .ref h6, .int a0, .int a1, .int a2, .int a3])), (h5, .inl (cI, 81, .inl g4))] U.heap ∧ va_K (dC, dI) vwCl (ty5 cB cI cJ cZ cP) U ∧ va_D (fun _ => True) [(h0, .inr (0, [.ref h1, .ref h2, .ref h3, .ref h4, .ref h5, .ref h6, .int a0, .int a1, .int a2, .int a3])), (h5, .inl (cI, 81, .inl g4))])) (va_Qv (fun _ : Unit => True) (fun _ t => ∃ (z0 : Nat → Int32), va_P (dC, dI) vwCl [(h0, .inr (0, [.ref h1, .ref h2, .ref h3, .ref h4, .ref h5, .ref h6, .int a0, .int a1, .int a2, .int a3])), (h5, .inl (cI, 81, .inl z0))] t.heap ∧ va_D (va_A [(h0, .inr (0, [.ref h1, .ref h2, .ref h3, .ref h4, .ref h5, .ref h6, .int a0, .int a1, .int a2, .int a3])), (h5, .inl (cI, 81, .inl g4))] sz) [(h0, .inr (0, [.ref h1, .ref h2, .ref h3, .ref h4, .ref h5, .ref h6, .int a0, .int a1, .int a2, .int a3])), (h5, .inl (cI, 81, .inl z0))]) (va_A [(h0, .inr (0, [.ref h1, .ref h2, .ref h3, .ref h4, .ref h5, .ref h6, .int a0, .int a1, .int a2, .int a3])), (h5, .inl (cI, 81, .inl g4))] sz)) 0 0 (va_A [(h0, .inr (0, [.ref h1, .ref h2, .ref h3, .ref h4, .ref h5, .ref h6, .int a0, .int a1, .int a2, .int a3])), (h5, .inl (cI, 81, .inl g4))] sz) := by
  refine Met.ofW (cc := cX0_numberPairs) (maxL := 5) (ret := none) (by decide) rfl ?_
  intro p e s m args below meth c s₁ B hml hv
  obtain ⟨rfl, hsz, hP, hK, hD0⟩ := hv
  have hx := B.exec
  have hb := B.bytes
  have hr := B.returns
  have hts := atoms_spec (ws := v_s_X0_numberPairs) B.pre
  have hown : s.vm.findClass RX0 = some m.cls := findClass_of_methodNamed B.named
  have hlocks := B.notSynchronized
  have hinX0 : ∀ w ∈ wsX00, w ∈ v_s_X0_numberPairs := fun _ h => List.mem_cons_of_mem _ (List.mem_append_right _ (List.mem_append_left _ h))
  subst hsz
  have hD := hD0.self (sz := s.heap.size)
  generalize hAe : va_A [(h0, .inr (0, [.ref h1, .ref h2, .ref h3, .ref h4, .ref h5, .ref h6, .int a0, .int a1, .int a2, .int a3])), (h5, .inl (cI, 81, .inl g4))] s.heap.size = A at hD ⊢
  have hA : ∀ q : Nat, s.heap.size ≤ q → A q := fun q h => by rw [← hAe]; exact Or.inr h
  have hP : va_P (dC, dI) vwCl [(h0, .inr (0, [.ref h1, .ref h2, .ref h3, .ref h4, .ref h5, .ref h6, .int a0, .int a1, .int a2, .int a3])), (h5, .inl (cI, 81, .inl g4))] s.heap := hP
  have hl := lv_entry ([.ref h0, .int p0]) (n := 5) (Nat.le_of_ble_eq_true rfl)
  rw [lg_entry_eq]
  generalize (lg_sl ([.ref h0, .int p0]) ++ List.replicate (5 - (lg_sl ([.ref h0, .int p0])).length) Slot.unset).toArray = ls at hl ⊢
  have hl : lv_has ls 5 [(0, .ref h0), (1, .int p0)] := hl
  refine W_gen (A := A) hP (fun H locs hP hS => ?_)
  refine lv_iconst (v := 0) hx hb dX0_numberPairs_0 (by decide) ?_
  refine lv_istore_n (lv' := [(2, .int 0), (0, .ref h0), (1, .int p0)]) hx hb dX0_numberPairs_1 rfl hl (by decide) rfl (fun ls hl => ?_)
  refine lv_iconst (v := 0) hx hb dX0_numberPairs_2 (by decide) ?_
  refine lv_istore_n (lv' := [(3, .int 0), (2, .int 0), (0, .ref h0), (1, .int p0)]) hx hb dX0_numberPairs_3 rfl hl (by decide) rfl (fun ls hl => ?_)
  refine W_loopM (σ := Int32 × (Nat → Int32) × Int32) (fun u H locs ls => va_P (dC, dI) vwCl [(h0, .inr (0, [.ref h1, .ref h2, .ref h3, .ref h4, .ref h5, .ref h6, .int a0, .int a1, .int a2, .int a3])), (h5, .inl (cI, 81, .inl u.2.1))] H ∧ va_D A [(h0, .inr (0, [.ref h1, .ref h2, .ref h3, .ref h4, .ref h5, .ref h6, .int a0, .int a1, .int a2, .int a3])), (h5, .inl (cI, 81, .inl u.2.1))] ∧ va_S A s.heap H locs ∧ lv_has ls 5 [(3, .int u.1), (2, .int u.2.2), (0, .ref h0), (1, .int p0)] ∧ rg (0) (9) u.1) (fun u => ((9) - u.1.toInt).toNat) 4 [] ?_ (0, g4, 0) H locs ls ⟨hP, hD, hS, hl, (rg_mono (rg_k (x := 0) (c := 0) (by decide)) (by decide) (by decide))⟩
  rintro ⟨x_2454, f_2455, x_2456⟩ H locs ls ⟨hP, hD, hS, hl, hx_2454⟩ ih_2694
  replace hP : va_P (dC, dI) vwCl [(h0, .inr (0, [.ref h1, .ref h2, .ref h3, .ref h4, .ref h5, .ref h6, .int a0, .int a1, .int a2, .int a3])), (h5, .inl (cI, 81, .inl f_2455))] H := hP
  replace hD : va_D A [(h0, .inr (0, [.ref h1, .ref h2, .ref h3, .ref h4, .ref h5, .ref h6, .int a0, .int a1, .int a2, .int a3])), (h5, .inl (cI, 81, .inl f_2455))] := hD
  replace hl : lv_has ls 5 [(3, .int x_2454), (2, .int x_2456), (0, .ref h0), (1, .int p0)] := hl
  replace hx_2454 : rg (0) (9) x_2454 := hx_2454
  refine lv_iload_n hx hb dX0_numberPairs_4 rfl (lv_at hl 0 rfl) ?_
  refine lv_bipush (v := 9) hx hb dX0_numberPairs_5 (by decide) ?_
  refine lv_icmp_ge (tgt := 78) hx hb dX0_numberPairs_7 (by decide) (fun c_2695 => ?_) (fun c_2695 => ?_)
  · skip
    have h_2696 : rg (9) (9) x_2454 := by have ha := hx_2454; have hb_ := (rg_k (x := 9) (c := 9) (by decide)); simp only [rg, fa_lt, fa_le, fa_eq, (by decide : (9 : Int32).toInt = 9)] at ha hb_ c_2695; simp only [rg]; omega
    have hP9 := hP.sub (ws' := [(h0, .inr (0, [.ref h1, .ref h2, .ref h3, .ref h4, .ref h5, .ref h6, .int a0, .int a1, .int a2, .int a3])), (h5, .inl (cI, 81, .inl f_2455))]) [0, 1] rfl
    have hD9 := hD.sub (ws' := [(h0, .inr (0, [.ref h1, .ref h2, .ref h3, .ref h4, .ref h5, .ref h6, .int a0, .int a1, .int a2, .int a3])), (h5, .inl (cI, 81, .inl f_2455))]) [0, 1] (by decide) rfl
    exact W.vret hx hb hr (fun t ht hW => ⟨⟨(), rfl, trivial, ⟨f_2455, by rw [ht]; exact hP9, hD9⟩⟩, hS.F ht⟩) hS.2.2 dX0_numberPairs_78
  · skip
    have h_2697 : rg (0) (8) x_2454 := by have ha := hx_2454; have hb_ := (rg_k (x := 9) (c := 9) (by decide)); simp only [rg, fa_lt, fa_le, fa_eq, (by decide : (9 : Int32).toInt = 9)] at ha hb_ c_2695; simp only [rg]; omega
    refine lv_iconst (v := 0) hx hb dX0_numberPairs_10 (by decide) ?_
    refine lv_istore (lv' := [(4, .int 0), (3, .int x_2454), (2, .int x_2456), (0, .ref h0), (1, .int p0)]) hx hb dX0_numberPairs_11 hl (by decide) rfl (fun ls hl => ?_)
    refine W_loopM (σ := Int32 × (Nat → Int32) × Int32) (fun u H locs ls => va_P (dC, dI) vwCl [(h0, .inr (0, [.ref h1, .ref h2, .ref h3, .ref h4, .ref h5, .ref h6, .int a0, .int a1, .int a2, .int a3])), (h5, .inl (cI, 81, .inl u.2.1))] H ∧ va_D A [(h0, .inr (0, [.ref h1, .ref h2, .ref h3, .ref h4, .ref h5, .ref h6, .int a0, .int a1, .int a2, .int a3])), (h5, .inl (cI, 81, .inl u.2.1))] ∧ va_S A s.heap H locs ∧ lv_has ls 5 [(4, .int u.1), (3, .int x_2454), (2, .int u.2.2), (0, .ref h0), (1, .int p0)] ∧ rg (0) (8) u.1) (fun u => ((8) - u.1.toInt).toNat) 13 [] ?_ (0, f_2455, x_2456) H locs ls ⟨hP, hD, hS, hl, (rg_mono (rg_k (x := 0) (c := 0) (by decide)) (by decide) (by decide))⟩
    rintro ⟨x_2884, f_2885, x_2886⟩ H locs ls ⟨hP, hD, hS, hl, hx_2884⟩ ih_2909
    replace hP : va_P (dC, dI) vwCl [(h0, .inr (0, [.ref h1, .ref h2, .ref h3, .ref h4, .ref h5, .ref h6, .int a0, .int a1, .int a2, .int a3])), (h5, .inl (cI, 81, .inl f_2885))] H := hP
    replace hD : va_D A [(h0, .inr (0, [.ref h1, .ref h2, .ref h3, .ref h4, .ref h5, .ref h6, .int a0, .int a1, .int a2, .int a3])), (h5, .inl (cI, 81, .inl f_2885))] := hD
    replace hl : lv_has ls 5 [(4, .int x_2884), (3, .int x_2454), (2, .int x_2886), (0, .ref h0), (1, .int p0)] := hl
    replace hx_2884 : rg (0) (8) x_2884 := hx_2884
    refine lv_iload hx hb dX0_numberPairs_13 (lv_at hl 0 rfl) ?_
    refine lv_iload_n hx hb dX0_numberPairs_15 rfl (lv_at hl 1 rfl) ?_
    refine lv_icmp_ge (tgt := 72) hx hb dX0_numberPairs_16 (by decide) (fun c_2910 => ?_) (fun c_2910 => ?_)
    · skip
      obtain ⟨x_2911, ex_2911⟩ : ∃ y : Int32, y = x_2454 + Int32.ofInt (1) := ⟨_, rfl⟩
      have hx_2911 : rg (1) (9) x_2911 := by rw [ex_2911]; exact rg_mono (rg_add h_2697 (rg_k (x := Int32.ofInt (1)) (c := 1) (by decide)) (by decide) (by decide)) (by decide) (by decide)
      have qx_2911 : x_2911.toInt = x_2454.toInt + (1) := by rw [ex_2911]; exact rg_addE h_2697 (rg_k (x := Int32.ofInt (1)) (c := 1) (by decide)) (by decide) (by decide) (by decide)
      refine lv_iinc (v := x_2911) (lv' := [(3, .int x_2911), (4, .int x_2884), (2, .int x_2886), (0, .ref h0), (1, .int p0)]) hx hb dX0_numberPairs_72 hl (k := 1) rfl (ex_2911.symm) (by decide) rfl (fun ls hl => ?_)
      clear ex_2911
      refine lv_goto (tgt := 4) hx hb dX0_numberPairs_75 (by decide) ?_
      exact ih_2694 (x_2911, f_2885, x_2886) H locs ls ⟨hP.sub (ws' := [(h0, .inr (0, [.ref h1, .ref h2, .ref h3, .ref h4, .ref h5, .ref h6, .int a0, .int a1, .int a2, .int a3])), (h5, .inl (cI, 81, .inl f_2885))]) [0, 1] rfl, hD.sub (ws' := [(h0, .inr (0, [.ref h1, .ref h2, .ref h3, .ref h4, .ref h5, .ref h6, .int a0, .int a1, .int a2, .int a3])), (h5, .inl (cI, 81, .inl f_2885))]) [0, 1] (by decide) rfl, hS, lv_sub hl [0, 2, 3, 4] rfl, (rg_mono hx_2911 (by decide) (by decide))⟩ (by show ((9) - x_2911.toInt).toNat < ((9) - x_2454.toInt).toNat; have ha := h_2697; simp only [rg] at ha; omega)
    · skip
      have h_2912 : rg (0) (7) x_2884 := by have ha := hx_2884; have hb_ := h_2697; simp only [rg, fa_lt, fa_le, fa_eq] at ha hb_ c_2910; simp only [rg]; omega
      have h_2913 : rg (1) (8) x_2454 := by have ha := h_2912; have hb_ := h_2697; have hc_ := c_2910; simp only [rg, fa_lt, fa_le, fa_eq] at ha hb_ hc_; simp only [rg]; omega
      have h_2914 : rg (1) (8) x_2454 := by have ha := hx_2884; have hb_ := h_2697; simp only [rg, fa_lt, fa_le, fa_eq] at ha hb_ c_2910; simp only [rg]; omega
      refine lv_iload_n hx hb dX0_numberPairs_19 rfl (lv_at hl 4 rfl) ?_
      refine lv_iload_n hx hb dX0_numberPairs_20 rfl (lv_at hl 1 rfl) ?_
      refine lv_ishr hx hb dX0_numberPairs_21 ?_
      refine lv_topi (fun x_2915 ex_2915 => ?_)
      refine lv_iload_n hx hb dX0_numberPairs_22 rfl (lv_at hl 4 rfl) ?_
      refine lv_iload hx hb dX0_numberPairs_23 (lv_at hl 0 rfl) ?_
      refine lv_ishr hx hb dX0_numberPairs_25 ?_
      refine lv_topi (fun x_2916 ex_2916 => ?_)
      refine lv_iand hx hb dX0_numberPairs_26 ?_
      refine lv_topi (fun x_2917 ex_2917 => ?_)
      refine lv_iconst (v := 1) hx hb dX0_numberPairs_27 (by decide) ?_
      refine lv_iand hx hb dX0_numberPairs_28 ?_
      refine lv_topi (fun x_2918 ex_2918 => ?_)
      have hx_2918 : rg (0) (1) x_2918 := by rw [ex_2918]; exact rg_mono (rg_andr (b := 1) (rg_mono (rg_k (x := 1) (c := 1) (by decide)) (by decide) (by decide))) (by decide) (by decide)
      refine lv_iconst (v := 1) hx hb dX0_numberPairs_29 (by decide) ?_
      refine lv_icmp_ne (tgt := 66) hx hb dX0_numberPairs_30 (by decide) (fun c_2919 => ?_) (fun c_2919 => ?_)
      · skip
        have h_2920 : rg (0) (0) x_2918 := by have ha := hx_2918; have hb_ := (rg_k (x := 1) (c := 1) (by decide)); simp only [rg, fa_lt, fa_le, fa_eq, (by decide : (1 : Int32).toInt = 1)] at ha hb_ c_2919; simp only [rg]; omega
        obtain ⟨x_2921, ex_2921⟩ : ∃ y : Int32, y = x_2884 + Int32.ofInt (1) := ⟨_, rfl⟩
        have hx_2921 : rg (1) (8) x_2921 := by rw [ex_2921]; exact rg_mono (rg_add h_2912 (rg_k (x := Int32.ofInt (1)) (c := 1) (by decide)) (by decide) (by decide)) (by decide) (by decide)
        have qx_2921 : x_2921.toInt = x_2884.toInt + (1) := by rw [ex_2921]; exact rg_addE h_2912 (rg_k (x := Int32.ofInt (1)) (c := 1) (by decide)) (by decide) (by decide) (by decide)
        refine lv_iinc (v := x_2921) (lv' := [(4, .int x_2921), (3, .int x_2454), (2, .int x_2886), (0, .ref h0), (1, .int p0)]) hx hb dX0_numberPairs_66 hl (k := 0) rfl (ex_2921.symm) (by decide) rfl (fun ls hl => ?_)
        clear ex_2921
        refine lv_goto (tgt := 13) hx hb dX0_numberPairs_69 (by decide) ?_
        exact ih_2909 (x_2921, f_2885, x_2886) H locs ls ⟨hP.sub (ws' := [(h0, .inr (0, [.ref h1, .ref h2, .ref h3, .ref h4, .ref h5, .ref h6, .int a0, .int a1, .int a2, .int a3])), (h5, .inl (cI, 81, .inl f_2885))]) [0, 1] rfl, hD.sub (ws' := [(h0, .inr (0, [.ref h1, .ref h2, .ref h3, .ref h4, .ref h5, .ref h6, .int a0, .int a1, .int a2, .int a3])), (h5, .inl (cI, 81, .inl f_2885))]) [0, 1] (by decide) rfl, hS, lv_sub hl [0, 1, 2, 3, 4] rfl, (rg_mono hx_2921 (by decide) (by decide))⟩ (by show ((8) - x_2921.toInt).toNat < ((8) - x_2884.toInt).toNat; have ha := h_2912; simp only [rg] at ha; omega)
      · skip
        have h_2922 : rg (1) (1) x_2918 := by have ha := hx_2918; have hb_ := (rg_k (x := 1) (c := 1) (by decide)); simp only [rg, fa_lt, fa_le, fa_eq, (by decide : (1 : Int32).toInt = 1)] at ha hb_ c_2919; simp only [rg]; omega
        refine lv_aload_n hx hb dX0_numberPairs_33 rfl (lv_at hl 3 rfl) ?_
        refine va_get (D := (dC, dI)) (ci := 0) (v := .ref h5) (C := RX0) (T := TX0) (N := 10) hx hb hts hinX0 hown hK hP 0 rfl rfl 4 (by decide) (hts (.fieldLink RX0 24 "MayRings$Families" "bits" "[I") (List.mem_of_getElem? (i := 1) rfl)) (fun _ h9 => h9) rfl dX0_numberPairs_34 ?_
        refine lv_iload_n hx hb dX0_numberPairs_37 rfl (lv_at hl 1 rfl) ?_
        refine lv_bipush (v := 9) hx hb dX0_numberPairs_38 (by decide) ?_
        refine lv_imul hx hb dX0_numberPairs_40 ?_
        refine lv_topi (fun x_2923 ex_2923 => ?_)
        have hx_2923 : rg (9) (72) x_2923 := by rw [ex_2923]; exact rg_mono (rg_mul h_2914 (rg_k (x := 9) (c := 9) (by decide)) (by decide) (by decide) (by decide)) (by decide) (by decide)
        refine lv_iload hx hb dX0_numberPairs_41 (lv_at hl 0 rfl) ?_
        refine lv_iadd hx hb dX0_numberPairs_43 ?_
        refine lv_topi (fun x_2924 ex_2924 => ?_)
        have hx_2924 : rg (9) (79) x_2924 := by rw [ex_2924]; exact rg_mono (rg_add hx_2923 h_2912 (by decide) (by decide)) (by decide) (by decide)
        have qx_2924 : x_2924.toInt = x_2923.toInt + x_2884.toInt := by rw [ex_2924]; exact rg_addQ hx_2923 h_2912 (by decide) (by decide)
        refine lv_iconst (v := 1) hx hb dX0_numberPairs_44 (by decide) ?_
        refine lv_iload_n hx hb dX0_numberPairs_45 rfl (lv_at hl 2 rfl) ?_
        refine lv_ishl hx hb dX0_numberPairs_46 ?_
        refine lv_topi (fun x_2925 ex_2925 => ?_)
        refine va_iast hx hb hK hP hD hS 1 1 rfl rfl (rg_in (n := 81) (rg_mono hx_2924 (by decide) (by decide))) dX0_numberPairs_47 (fun H locs hP hD hS => ?_)
        obtain ⟨f_2926, ef_2926⟩ : ∃ f : Nat → Int32, f = upd f_2885 (x_2924 : Int32).toNatClampNeg x_2925 := ⟨_, rfl⟩
        rw [← ef_2926] at hP hD
        clear ef_2926
        replace hP : va_P (dC, dI) vwCl [(h0, .inr (0, [.ref h1, .ref h2, .ref h3, .ref h4, .ref h5, .ref h6, .int a0, .int a1, .int a2, .int a3])), (h5, .inl (cI, 81, .inl f_2926))] H := hP
        replace hD : va_D A [(h0, .inr (0, [.ref h1, .ref h2, .ref h3, .ref h4, .ref h5, .ref h6, .int a0, .int a1, .int a2, .int a3])), (h5, .inl (cI, 81, .inl f_2926))] := hD
        refine lv_aload_n hx hb dX0_numberPairs_48 rfl (lv_at hl 3 rfl) ?_
        refine va_get (D := (dC, dI)) (ci := 0) (v := .ref h5) (C := RX0) (T := TX0) (N := 10) hx hb hts hinX0 hown hK hP 0 rfl rfl 4 (by decide) (hts (.fieldLink RX0 24 "MayRings$Families" "bits" "[I") (List.mem_of_getElem? (i := 1) rfl)) (fun _ h9 => h9) rfl dX0_numberPairs_49 ?_
        refine lv_iload hx hb dX0_numberPairs_52 (lv_at hl 0 rfl) ?_
        refine lv_bipush (v := 9) hx hb dX0_numberPairs_54 (by decide) ?_
        refine lv_imul hx hb dX0_numberPairs_56 ?_
        refine lv_topi (fun x_2927 ex_2927 => ?_)
        have hx_2927 : rg (0) (63) x_2927 := by rw [ex_2927]; exact rg_mono (rg_mul h_2912 (rg_k (x := 9) (c := 9) (by decide)) (by decide) (by decide) (by decide)) (by decide) (by decide)
        refine lv_iload_n hx hb dX0_numberPairs_57 rfl (lv_at hl 1 rfl) ?_
        refine lv_iadd hx hb dX0_numberPairs_58 ?_
        refine lv_topi (fun x_2928 ex_2928 => ?_)
        have hx_2928 : rg (1) (71) x_2928 := by rw [ex_2928]; exact rg_mono (rg_add hx_2927 h_2914 (by decide) (by decide)) (by decide) (by decide)
        have qx_2928 : x_2928.toInt = x_2927.toInt + x_2454.toInt := by rw [ex_2928]; exact rg_addQ hx_2927 h_2914 (by decide) (by decide)
        refine lv_iconst (v := 1) hx hb dX0_numberPairs_59 (by decide) ?_
        refine lv_iload_n hx hb dX0_numberPairs_60 rfl (lv_at hl 2 rfl) ?_
        refine lv_ishl hx hb dX0_numberPairs_61 ?_
        refine tp_v (.int x_2925) (congrArg Value.int (ex_2925.symm)) ?_
        refine va_iast hx hb hK hP hD hS 1 1 rfl rfl (rg_in (n := 81) (rg_mono hx_2928 (by decide) (by decide))) dX0_numberPairs_62 (fun H locs hP hD hS => ?_)
        obtain ⟨f_2929, ef_2929⟩ : ∃ f : Nat → Int32, f = upd f_2926 (x_2928 : Int32).toNatClampNeg x_2925 := ⟨_, rfl⟩
        rw [← ef_2929] at hP hD
        clear ef_2929
        replace hP : va_P (dC, dI) vwCl [(h0, .inr (0, [.ref h1, .ref h2, .ref h3, .ref h4, .ref h5, .ref h6, .int a0, .int a1, .int a2, .int a3])), (h5, .inl (cI, 81, .inl f_2929))] H := hP
        replace hD : va_D A [(h0, .inr (0, [.ref h1, .ref h2, .ref h3, .ref h4, .ref h5, .ref h6, .int a0, .int a1, .int a2, .int a3])), (h5, .inl (cI, 81, .inl f_2929))] := hD
        obtain ⟨x_2930, ex_2930⟩ : ∃ y : Int32, y = x_2886 + Int32.ofInt (1) := ⟨_, rfl⟩
        refine lv_iinc (v := x_2930) (lv' := [(2, .int x_2930), (4, .int x_2884), (3, .int x_2454), (0, .ref h0), (1, .int p0)]) hx hb dX0_numberPairs_63 hl (k := 2) rfl (ex_2930.symm) (by decide) rfl (fun ls hl => ?_)
        clear ex_2930
        obtain ⟨x_2931, ex_2931⟩ : ∃ y : Int32, y = x_2884 + Int32.ofInt (1) := ⟨_, rfl⟩
        have hx_2931 : rg (1) (8) x_2931 := by rw [ex_2931]; exact rg_mono (rg_add h_2912 (rg_k (x := Int32.ofInt (1)) (c := 1) (by decide)) (by decide) (by decide)) (by decide) (by decide)
        have qx_2931 : x_2931.toInt = x_2884.toInt + (1) := by rw [ex_2931]; exact rg_addE h_2912 (rg_k (x := Int32.ofInt (1)) (c := 1) (by decide)) (by decide) (by decide) (by decide)
        refine lv_iinc (v := x_2931) (lv' := [(4, .int x_2931), (2, .int x_2930), (3, .int x_2454), (0, .ref h0), (1, .int p0)]) hx hb dX0_numberPairs_66 hl (k := 1) rfl (ex_2931.symm) (by decide) rfl (fun ls hl => ?_)
        clear ex_2931
        refine lv_goto (tgt := 13) hx hb dX0_numberPairs_69 (by decide) ?_
        exact ih_2909 (x_2931, f_2929, x_2930) H locs ls ⟨hP.sub (ws' := [(h0, .inr (0, [.ref h1, .ref h2, .ref h3, .ref h4, .ref h5, .ref h6, .int a0, .int a1, .int a2, .int a3])), (h5, .inl (cI, 81, .inl f_2929))]) [0, 1] rfl, hD.sub (ws' := [(h0, .inr (0, [.ref h1, .ref h2, .ref h3, .ref h4, .ref h5, .ref h6, .int a0, .int a1, .int a2, .int a3])), (h5, .inl (cI, 81, .inl f_2929))]) [0, 1] (by decide) rfl, hS, lv_sub hl [0, 2, 1, 3, 4] rfl, (rg_mono hx_2931 (by decide) (by decide))⟩ (by show ((8) - x_2931.toInt).toNat < ((8) - x_2884.toInt).toNat; have ha := h_2912; simp only [rg] at ha; omega)
def v_s_J6_bitCount_0f7a4_b9 : List Cond := Cond.code yJ6_bitCount_0f7a4 cJ6_bitCount_0f7a4 1 (some .int) :: ([Cond.constant RJ6 265 (1431655765), Cond.constant RJ6 266 (858993459), Cond.constant RJ6 267 (252645135)] ++ ([]))
theorem k_s_J6_bitCount_0f7a4_b9 : GoodIn lw_tbl v_s_J6_bitCount_0f7a4_b9 := gd_c (List.mem_of_getElem? (i := 879) (by decide +kernel)) rfl (goodIn_app (gd_c (List.mem_of_getElem? (i := 880) (by decide +kernel)) rfl (gd_c (List.mem_of_getElem? (i := 881) (by decide +kernel)) rfl (gd_c (List.mem_of_getElem? (i := 882) (by decide +kernel)) rfl (gd_nil)))) (gd_nil))
set_option maxHeartbeats 2000000 in
set_option maxRecDepth 100000 in
theorem c_s_J6_bitCount_0f7a4_b9 (l : Launch) (dC : Nat → ClassId) (dI : Nat → Nat → Nat) (cB cI cJ cZ cP : ClassId) (p0 : Int32) (hp0 : rg (0) (511) p0) (sz : Nat) : Met l yJ6_bitCount_0f7a4 v_s_J6_bitCount_0f7a4_b9 ({ frames := 0, cells := 0, slots := 0, locals := 0 }) (va_Pc [.int p0] (fun U => U.heap.size = sz ∧ va_P (dC, dI) vwCl [] U.heap ∧ va_K (dC, dI) vwCl (ty5 cB cI cJ cZ cP) U ∧ va_D (fun _ => True) [])) (va_Qi (fun (r : Int32) (u9 : Int32) => u9 = r ∧ rg (0) (9) r ∧ (rg (0) (8) r → rg (0) (510) p0)) (fun u9 t => (u9 = bcE p0) ∧ va_P (dC, dI) vwCl [] t.heap ∧ va_D (va_A [] sz) []) (va_A [] sz)) 0 0 (va_A [] sz) := by
  refine Met.ofW (cc := cJ6_bitCount_0f7a4) (maxL := 1) (ret := (some .int)) (by decide) rfl ?_
  intro p e s m args below meth c s₁ B hml hv
  obtain ⟨rfl, hsz, hP, hK, hD0⟩ := hv
  have hx := B.exec
  have hb := B.bytes
  have hr := B.returns
  have hts := atoms_spec (ws := v_s_J6_bitCount_0f7a4_b9) B.pre
  have hown : s.vm.findClass RJ6 = some m.cls := findClass_of_methodNamed B.named
  have hlocks := B.notSynchronized
  subst hsz
  have hD := hD0.self (sz := s.heap.size)
  generalize hAe : va_A [] s.heap.size = A at hD ⊢
  have hA : ∀ q : Nat, s.heap.size ≤ q → A q := fun q h => by rw [← hAe]; exact Or.inr h
  have hP : va_P (dC, dI) vwCl [] s.heap := hP
  have hl := lv_entry ([.int p0]) (n := 1) (Nat.le_of_ble_eq_true rfl)
  rw [lg_entry_eq]
  generalize (lg_sl ([.int p0]) ++ List.replicate (1 - (lg_sl ([.int p0])).length) Slot.unset).toArray = ls at hl ⊢
  have hl : lv_has ls 1 [(0, .int p0)] := hl
  refine W_gen (A := A) hP (fun H locs hP hS => ?_)
  refine lv_iload_n hx hb dJ6_bitCount_0f7a4_0 rfl (lv_at hl 0 rfl) ?_
  refine lv_iload_n hx hb dJ6_bitCount_0f7a4_1 rfl (lv_at hl 0 rfl) ?_
  refine lv_iconst (v := 1) hx hb dJ6_bitCount_0f7a4_2 (by decide) ?_
  refine lv_iushr hx hb dJ6_bitCount_0f7a4_3 rfl ?_
  refine lv_topi (fun x_1 ex_1 => ?_)
  have hx_1 : rg (0) (2147483647) x_1 := by rw [ex_1]; exact rg_mono (rg_ushr 1 (by decide) (by decide)) (by decide) (by decide)
  refine lv_ldcw (v := 1431655765) hx hb hown (hts (.constant RJ6 265 (1431655765)) (List.mem_of_getElem? (i := 1) rfl)) dJ6_bitCount_0f7a4_4 ?_
  refine lv_iand hx hb dJ6_bitCount_0f7a4_7 ?_
  refine lv_topi (fun x_2 ex_2 => ?_)
  have hx_2 : rg (0) (1431655765) x_2 := by rw [ex_2]; exact rg_mono (rg_andr (b := 1431655765) (rg_mono (rg_k (x := 1431655765) (c := 1431655765) (by decide)) (by decide) (by decide))) (by decide) (by decide)
  have kx_2_0 : rg 1 2147483647 x_2 → rg 1 (2147483647) x_1 := fun hq => rg_andP hx_1 (ex_2 ▸ hq)
  refine lv_isub hx hb dJ6_bitCount_0f7a4_8 ?_
  refine lv_topi (fun x_3 ex_3 => ?_)
  have hx_3 : rg (-1431655765) (511) x_3 := by rw [ex_3]; exact rg_mono (rg_sub hp0 hx_2 (by decide) (by decide)) (by decide) (by decide)
  have qx_3 : x_3.toInt = p0.toInt - x_2.toInt := by rw [ex_3]; exact rg_subQ hp0 hx_2 (by decide) (by decide)
  refine lv_istore_n (lv' := [(0, .int x_3)]) hx hb dJ6_bitCount_0f7a4_9 rfl hl (by decide) rfl (fun ls hl => ?_)
  refine lv_iload_n hx hb dJ6_bitCount_0f7a4_10 rfl (lv_at hl 0 rfl) ?_
  refine lv_ldcw (v := 858993459) hx hb hown (hts (.constant RJ6 266 (858993459)) (List.mem_of_getElem? (i := 2) rfl)) dJ6_bitCount_0f7a4_11 ?_
  refine lv_iand hx hb dJ6_bitCount_0f7a4_14 ?_
  refine lv_topi (fun x_4 ex_4 => ?_)
  have hx_4 : rg (0) (858993459) x_4 := by rw [ex_4]; exact rg_mono (rg_andr (b := 858993459) (rg_mono (rg_k (x := 858993459) (c := 858993459) (by decide)) (by decide) (by decide))) (by decide) (by decide)
  refine lv_iload_n hx hb dJ6_bitCount_0f7a4_15 rfl (lv_at hl 0 rfl) ?_
  refine lv_iconst (v := 2) hx hb dJ6_bitCount_0f7a4_16 (by decide) ?_
  refine lv_iushr hx hb dJ6_bitCount_0f7a4_17 rfl ?_
  refine lv_topi (fun x_5 ex_5 => ?_)
  have hx_5 : rg (0) (1073741823) x_5 := by rw [ex_5]; exact rg_mono (rg_ushr 2 (by decide) (by decide)) (by decide) (by decide)
  refine lv_ldcw (v := 858993459) hx hb hown (hts (.constant RJ6 266 (858993459)) (List.mem_of_getElem? (i := 2) rfl)) dJ6_bitCount_0f7a4_18 ?_
  refine lv_iand hx hb dJ6_bitCount_0f7a4_21 ?_
  refine lv_topi (fun x_6 ex_6 => ?_)
  have hx_6 : rg (0) (858993459) x_6 := by rw [ex_6]; exact rg_mono (rg_andr (b := 858993459) (rg_mono (rg_k (x := 858993459) (c := 858993459) (by decide)) (by decide) (by decide))) (by decide) (by decide)
  have kx_6_0 : rg 1 2147483647 x_6 → rg 1 (1073741823) x_5 := fun hq => rg_andP hx_5 (ex_6 ▸ hq)
  refine lv_iadd hx hb dJ6_bitCount_0f7a4_22 ?_
  refine lv_topi (fun x_7 ex_7 => ?_)
  have hx_7 : rg (0) (1717986918) x_7 := by rw [ex_7]; exact rg_mono (rg_add hx_4 hx_6 (by decide) (by decide)) (by decide) (by decide)
  have qx_7 : x_7.toInt = x_4.toInt + x_6.toInt := by rw [ex_7]; exact rg_addQ hx_4 hx_6 (by decide) (by decide)
  refine lv_istore_n (lv' := [(0, .int x_7)]) hx hb dJ6_bitCount_0f7a4_23 rfl hl (by decide) rfl (fun ls hl => ?_)
  refine lv_iload_n hx hb dJ6_bitCount_0f7a4_24 rfl (lv_at hl 0 rfl) ?_
  refine lv_iload_n hx hb dJ6_bitCount_0f7a4_25 rfl (lv_at hl 0 rfl) ?_
  refine lv_iconst (v := 4) hx hb dJ6_bitCount_0f7a4_26 (by decide) ?_
  refine lv_iushr hx hb dJ6_bitCount_0f7a4_27 rfl ?_
  refine lv_topi (fun x_8 ex_8 => ?_)
  have hx_8 : rg (0) (268435455) x_8 := by rw [ex_8]; exact rg_mono (rg_ushr 4 (by decide) (by decide)) (by decide) (by decide)
  refine lv_iadd hx hb dJ6_bitCount_0f7a4_28 ?_
  refine lv_topi (fun x_9 ex_9 => ?_)
  have hx_9 : rg (0) (1986422373) x_9 := by rw [ex_9]; exact rg_mono (rg_add hx_7 hx_8 (by decide) (by decide)) (by decide) (by decide)
  have qx_9 : x_9.toInt = x_7.toInt + x_8.toInt := by rw [ex_9]; exact rg_addQ hx_7 hx_8 (by decide) (by decide)
  refine lv_ldcw (v := 252645135) hx hb hown (hts (.constant RJ6 267 (252645135)) (List.mem_of_getElem? (i := 3) rfl)) dJ6_bitCount_0f7a4_29 ?_
  refine lv_iand hx hb dJ6_bitCount_0f7a4_32 ?_
  refine lv_topi (fun x_10 ex_10 => ?_)
  have hx_10 : rg (0) (252645135) x_10 := by rw [ex_10]; exact rg_mono (rg_andr (b := 252645135) (rg_mono (rg_k (x := 252645135) (c := 252645135) (by decide)) (by decide) (by decide))) (by decide) (by decide)
  have kx_10_0 : rg 1 2147483647 x_10 → rg 1 (1986422373) x_9 := fun hq => rg_andP hx_9 (ex_10 ▸ hq)
  refine lv_istore_n (lv' := [(0, .int x_10)]) hx hb dJ6_bitCount_0f7a4_33 rfl hl (by decide) rfl (fun ls hl => ?_)
  refine lv_iload_n hx hb dJ6_bitCount_0f7a4_34 rfl (lv_at hl 0 rfl) ?_
  refine lv_iload_n hx hb dJ6_bitCount_0f7a4_35 rfl (lv_at hl 0 rfl) ?_
  refine lv_bipush (v := 8) hx hb dJ6_bitCount_0f7a4_36 (by decide) ?_
  refine lv_iushr hx hb dJ6_bitCount_0f7a4_38 rfl ?_
  refine lv_topi (fun x_11 ex_11 => ?_)
  have hx_11 : rg (0) (16777215) x_11 := by rw [ex_11]; exact rg_mono (rg_ushr 8 (by decide) (by decide)) (by decide) (by decide)
  refine lv_iadd hx hb dJ6_bitCount_0f7a4_39 ?_
  refine lv_topi (fun x_12 ex_12 => ?_)
  have hx_12 : rg (0) (269422350) x_12 := by rw [ex_12]; exact rg_mono (rg_add hx_10 hx_11 (by decide) (by decide)) (by decide) (by decide)
  have qx_12 : x_12.toInt = x_10.toInt + x_11.toInt := by rw [ex_12]; exact rg_addQ hx_10 hx_11 (by decide) (by decide)
  refine lv_istore_n (lv' := [(0, .int x_12)]) hx hb dJ6_bitCount_0f7a4_40 rfl hl (by decide) rfl (fun ls hl => ?_)
  refine lv_iload_n hx hb dJ6_bitCount_0f7a4_41 rfl (lv_at hl 0 rfl) ?_
  refine lv_iload_n hx hb dJ6_bitCount_0f7a4_42 rfl (lv_at hl 0 rfl) ?_
  refine lv_bipush (v := 16) hx hb dJ6_bitCount_0f7a4_43 (by decide) ?_
  refine lv_iushr hx hb dJ6_bitCount_0f7a4_45 rfl ?_
  refine lv_topi (fun x_13 ex_13 => ?_)
  have hx_13 : rg (0) (65535) x_13 := by rw [ex_13]; exact rg_mono (rg_ushr 16 (by decide) (by decide)) (by decide) (by decide)
  refine lv_iadd hx hb dJ6_bitCount_0f7a4_46 ?_
  refine lv_topi (fun x_14 ex_14 => ?_)
  have hx_14 : rg (0) (269487885) x_14 := by rw [ex_14]; exact rg_mono (rg_add hx_12 hx_13 (by decide) (by decide)) (by decide) (by decide)
  have qx_14 : x_14.toInt = x_12.toInt + x_13.toInt := by rw [ex_14]; exact rg_addQ hx_12 hx_13 (by decide) (by decide)
  refine lv_istore_n (lv' := [(0, .int x_14)]) hx hb dJ6_bitCount_0f7a4_47 rfl hl (by decide) rfl (fun ls hl => ?_)
  refine lv_iload_n hx hb dJ6_bitCount_0f7a4_48 rfl (lv_at hl 0 rfl) ?_
  refine lv_bipush (v := 63) hx hb dJ6_bitCount_0f7a4_49 (by decide) ?_
  refine lv_iand hx hb dJ6_bitCount_0f7a4_51 ?_
  refine lv_topi (fun x_15 ex_15 => ?_)
  have hx_15 : rg (0) (63) x_15 := by rw [ex_15]; exact rg_mono (rg_andr (b := 63) (rg_mono (rg_k (x := 63) (c := 63) (by decide)) (by decide) (by decide))) (by decide) (by decide)
  have kx_15_0 : rg 1 2147483647 x_15 → rg 1 (269487885) x_14 := fun hq => rg_andP hx_14 (ex_15 ▸ hq)
  have h_16 : x_15 = bcE p0 := by subst x_1 x_2 x_3 x_4 x_5 x_6 x_7 x_8 x_9 x_10 x_11 x_12 x_13 x_14 x_15; rfl
  have gh_16 := bc_9 hp0
  rw [← h_16] at gh_16
  have hP9 := hP.sub (ws' := []) [] rfl
  have hD9 := hD.sub (ws' := []) [] (by decide) rfl
  exact W.iret (v := x_15) hx hb hr (fun t ht hW => ⟨⟨x_15, x_15, rfl, ⟨rfl, ⟨(rg_mono gh_16.1 (by decide) (by decide)), fun hq => rg_mono (gh_16.2 (rg_mono hq (by decide) (by decide))) (by decide) (by decide)⟩⟩, ⟨h_16, by rw [ht]; exact hP9, hD9⟩⟩, hS.F ht⟩) hS.2.2 dJ6_bitCount_0f7a4_52
def v_s_X0_walk_k7 : List Cond := Cond.code yX0_walk cX0_walk 9 none :: ([Cond.methodLink RX0 81 yJ6_bitCount_0f7a4, Cond.static yJ6_bitCount_0f7a4, Cond.initialized RJ6, Cond.fieldLink RX0 37 "MayRings$Families" "size" "I", Cond.methodLink RX0 87 yX0_close, Cond.instanceMethod yX0_close, Cond.selects RX0 yX0_close yX0_close, Cond.initialized RX0] ++ (wsX00 ++ (v_s_J6_bitCount_0f7a4_b9 ++ (v_s_X0_close ++ ([])))))
theorem k_s_X0_walk_k7 : GoodIn lw_tbl v_s_X0_walk_k7 := gd_c (List.mem_of_getElem? (i := 1051) (by decide +kernel)) rfl (goodIn_app (gd_c (List.mem_of_getElem? (i := 1052) (by decide +kernel)) rfl (gd_c (List.mem_of_getElem? (i := 878) (by decide +kernel)) rfl (gd_c (List.mem_of_getElem? (i := 147) (by decide +kernel)) rfl (gd_c (List.mem_of_getElem? (i := 508) (by decide +kernel)) rfl (gd_c (List.mem_of_getElem? (i := 1053) (by decide +kernel)) rfl (gd_c (List.mem_of_getElem? (i := 1055) (by decide +kernel)) rfl (gd_c (List.mem_of_getElem? (i := 57) (by decide +kernel)) rfl (gd_c (List.mem_of_getElem? (i := 143) (by decide +kernel)) rfl (gd_nil))))))))) (goodIn_app kfX0 (goodIn_app k_s_J6_bitCount_0f7a4_b9 (goodIn_app k_s_X0_close (gd_nil)))))
set_option maxHeartbeats 2000000 in
set_option maxRecDepth 100000 in
theorem c_s_X0_walk_k7 (l : Launch) (dC : Nat → ClassId) (dI : Nat → Nat → Nat) (cB cI cJ cZ cP : ClassId) (h0 : Nat) (h1 : Nat) (g0 : Nat → Int32) (h2 : Nat) (g1 : Nat → Int32) (h3 : Nat) (h4 : Nat) (g3 : Nat → Int32) (h5 : Nat) (g4 : Nat → Int32) (h6 : Nat) (a0 : Int32) (ha0 : rg (0) (2520) a0) (a1 : Int32) (a2 : Int32) (ha2 : rg (1) (7) a2) (a3 : Int32) (h7 : Nat) (h8 : Nat) (h9 : Nat) (g7 : Nat → Int32) (hg7 : rgA (0) (511) g7) (h10 : Nat) (h11 : Nat) (h12 : Nat) (h13 : Nat) (a4 : Int32) (a5 : Int32) (a6 : Int32) (ha6 : rg (0) (1) a6) (a7 : Int32) (a8 : Int32) (a9 : Int32) (a10 : Int32) (a11 : Int32) (p1 : Int32) (hp1 : rg (0) (511) p1) (p2 : Int32) (hp2 : rg (0) (8) p2) (p3 : Int32) (p4 : Int32) (kr0 : nbA g1) (kr1 : bcE p1 = 7) (kr2 : nbk 7 p4) (sz : Nat) : Met l yX0_walk v_s_X0_walk_k7 ({ frames := 2, cells := 0, slots := 0, locals := 49 }) (va_Pc [.ref h0, .ref h7, .int p1, .int p2, .int p3, .int p4] (fun U => U.heap.size = sz ∧ va_P (dC, dI) vwCl [(h0, .inr (0, [.ref h1, .ref h2, .ref h3, .ref h4, .ref h5, .ref h6, .int a0, .int a1, .int a2, .int a3])), (h1, .inl (cI, 2520, .inl g0)), (h2, .inl (cI, 2520, .inl g1)), (h4, .inl (cI, 4096, .inl g3)), (h5, .inl (cI, 81, .inl g4)), (h7, .inr (7, [.ref h8, .ref h9, .ref h10, .ref h11, .ref h12, .ref h13, .int a4, .int a5, .int a6, .int a7, .int a8, .int a9, .int a10, .int a11])), (h9, .inl (cI, 9, .inl g7))] U.heap ∧ va_K (dC, dI) vwCl (ty5 cB cI cJ cZ cP) U ∧ va_D (fun _ => True) [(h0, .inr (0, [.ref h1, .ref h2, .ref h3, .ref h4, .ref h5, .ref h6, .int a0, .int a1, .int a2, .int a3])), (h1, .inl (cI, 2520, .inl g0)), (h2, .inl (cI, 2520, .inl g1)), (h4, .inl (cI, 4096, .inl g3)), (h5, .inl (cI, 81, .inl g4)), (h7, .inr (7, [.ref h8, .ref h9, .ref h10, .ref h11, .ref h12, .ref h13, .int a4, .int a5, .int a6, .int a7, .int a8, .int a9, .int a10, .int a11])), (h9, .inl (cI, 9, .inl g7))])) (va_Qv (fun _ : Unit => True) (fun _ t => ∃ (z0 : Int32) (z1 : Int32) (z2 : Nat → Int32) (z3 : Nat → Int32) (z4 : Nat → Int32), rg (0) (2520) z0 ∧ (nbA z3) ∧ va_P (dC, dI) vwCl [(h0, .inr (0, [.ref h1, .ref h2, .ref h3, .ref h4, .ref h5, .ref h6, .int z0, .int a1, .int a2, .int z1])), (h1, .inl (cI, 2520, .inl z2)), (h2, .inl (cI, 2520, .inl z3)), (h4, .inl (cI, 4096, .inl z4)), (h5, .inl (cI, 81, .inl g4)), (h7, .inr (7, [.ref h8, .ref h9, .ref h10, .ref h11, .ref h12, .ref h13, .int a4, .int a5, .int a6, .int a7, .int a8, .int a9, .int a10, .int a11])), (h9, .inl (cI, 9, .inl g7))] t.heap ∧ va_D (va_A [(h0, .inr (0, [.ref h1, .ref h2, .ref h3, .ref h4, .ref h5, .ref h6, .int a0, .int a1, .int a2, .int a3])), (h1, .inl (cI, 2520, .inl g0)), (h2, .inl (cI, 2520, .inl g1)), (h4, .inl (cI, 4096, .inl g3)), (h5, .inl (cI, 81, .inl g4)), (h7, .inr (7, [.ref h8, .ref h9, .ref h10, .ref h11, .ref h12, .ref h13, .int a4, .int a5, .int a6, .int a7, .int a8, .int a9, .int a10, .int a11])), (h9, .inl (cI, 9, .inl g7))] sz) [(h0, .inr (0, [.ref h1, .ref h2, .ref h3, .ref h4, .ref h5, .ref h6, .int z0, .int a1, .int a2, .int z1])), (h1, .inl (cI, 2520, .inl z2)), (h2, .inl (cI, 2520, .inl z3)), (h4, .inl (cI, 4096, .inl z4)), (h5, .inl (cI, 81, .inl g4)), (h7, .inr (7, [.ref h8, .ref h9, .ref h10, .ref h11, .ref h12, .ref h13, .int a4, .int a5, .int a6, .int a7, .int a8, .int a9, .int a10, .int a11])), (h9, .inl (cI, 9, .inl g7))]) (va_A [(h0, .inr (0, [.ref h1, .ref h2, .ref h3, .ref h4, .ref h5, .ref h6, .int a0, .int a1, .int a2, .int a3])), (h1, .inl (cI, 2520, .inl g0)), (h2, .inl (cI, 2520, .inl g1)), (h4, .inl (cI, 4096, .inl g3)), (h5, .inl (cI, 81, .inl g4)), (h7, .inr (7, [.ref h8, .ref h9, .ref h10, .ref h11, .ref h12, .ref h13, .int a4, .int a5, .int a6, .int a7, .int a8, .int a9, .int a10, .int a11])), (h9, .inl (cI, 9, .inl g7))] sz)) 0 0 (va_A [(h0, .inr (0, [.ref h1, .ref h2, .ref h3, .ref h4, .ref h5, .ref h6, .int a0, .int a1, .int a2, .int a3])), (h1, .inl (cI, 2520, .inl g0)), (h2, .inl (cI, 2520, .inl g1)), (h4, .inl (cI, 4096, .inl g3)), (h5, .inl (cI, 81, .inl g4)), (h7, .inr (7, [.ref h8, .ref h9, .ref h10, .ref h11, .ref h12, .ref h13, .int a4, .int a5, .int a6, .int a7, .int a8, .int a9, .int a10, .int a11])), (h9, .inl (cI, 9, .inl g7))] sz) := by
  refine Met.ofW (cc := cX0_walk) (maxL := 9) (ret := none) (by decide) rfl ?_
  intro p e s m args below meth c s₁ B hml hv
  obtain ⟨rfl, hsz, hP, hK, hD0⟩ := hv
  have hx := B.exec
  have hb := B.bytes
  have hr := B.returns
  have hts := atoms_spec (ws := v_s_X0_walk_k7) B.pre
  have hown : s.vm.findClass RX0 = some m.cls := findClass_of_methodNamed B.named
  have hlocks := B.notSynchronized
  have hinX0 : ∀ w ∈ wsX00, w ∈ v_s_X0_walk_k7 := fun _ h => List.mem_cons_of_mem _ (List.mem_append_right _ (List.mem_append_left _ h))
  subst hsz
  have hD := hD0.self (sz := s.heap.size)
  generalize hAe : va_A [(h0, .inr (0, [.ref h1, .ref h2, .ref h3, .ref h4, .ref h5, .ref h6, .int a0, .int a1, .int a2, .int a3])), (h1, .inl (cI, 2520, .inl g0)), (h2, .inl (cI, 2520, .inl g1)), (h4, .inl (cI, 4096, .inl g3)), (h5, .inl (cI, 81, .inl g4)), (h7, .inr (7, [.ref h8, .ref h9, .ref h10, .ref h11, .ref h12, .ref h13, .int a4, .int a5, .int a6, .int a7, .int a8, .int a9, .int a10, .int a11])), (h9, .inl (cI, 9, .inl g7))] s.heap.size = A at hD ⊢
  have hA : ∀ q : Nat, s.heap.size ≤ q → A q := fun q h => by rw [← hAe]; exact Or.inr h
  have hP : va_P (dC, dI) vwCl [(h0, .inr (0, [.ref h1, .ref h2, .ref h3, .ref h4, .ref h5, .ref h6, .int a0, .int a1, .int a2, .int a3])), (h1, .inl (cI, 2520, .inl g0)), (h2, .inl (cI, 2520, .inl g1)), (h4, .inl (cI, 4096, .inl g3)), (h5, .inl (cI, 81, .inl g4)), (h7, .inr (7, [.ref h8, .ref h9, .ref h10, .ref h11, .ref h12, .ref h13, .int a4, .int a5, .int a6, .int a7, .int a8, .int a9, .int a10, .int a11])), (h9, .inl (cI, 9, .inl g7))] s.heap := hP
  have hl := lv_entry ([.ref h0, .ref h7, .int p1, .int p2, .int p3, .int p4]) (n := 9) (Nat.le_of_ble_eq_true rfl)
  rw [lg_entry_eq]
  generalize (lg_sl ([.ref h0, .ref h7, .int p1, .int p2, .int p3, .int p4]) ++ List.replicate (9 - (lg_sl ([.ref h0, .ref h7, .int p1, .int p2, .int p3, .int p4])).length) Slot.unset).toArray = ls at hl ⊢
  have hl : lv_has ls 9 [(0, .ref h0), (1, .ref h7), (2, .int p1), (3, .int p2), (4, .int p3), (5, .int p4)] := hl
  refine W_gen (A := A) hP (fun H locs hP hS => ?_)
  refine lv_iload_n hx hb dX0_walk_0 rfl (lv_at hl 2 rfl) ?_
  have hPc := hP.sub (ws' := []) [] rfl
  have hDc := hD.sub (ws' := []) [] (by decide) rfl
  have hFc := va_free (wc := []) hD hS hA [] rfl
  refine va_calli (va_runS (As := [.int p1]) (rest := []) ⟨hx, hb, hml, hown, hts⟩ (c_s_J6_bitCount_0f7a4_b9 l dC dI cB cI cJ cZ cP p1 (rg_mono hp1 (by decide) (by decide)) H.size) (va_cwS 1 hts (gd_S (List.mem_of_getElem? (i := 1) rfl) (List.mem_of_getElem? (i := 2) rfl) (List.mem_of_getElem? (i := 3) rfl) (gd_mono k_s_J6_bitCount_0f7a4_b9 (fun _ h => List.mem_cons_of_mem _ (List.mem_append_right _ (List.mem_append_right _ (List.mem_append_left _ h)))))) rfl rfl rfl (by decide +kernel) ⟨Nat.le_of_ble_eq_true rfl, Nat.le_of_ble_eq_true rfl⟩) ⟨fun a U g mk q => by obtain ⟨q0, q1, qP, qK, qD⟩ := q; exact ⟨q0, q1, qP, va_K.moved (u := U) (U := U.calling g mk a) (Vm.Alike.refl U.vm) qK, qD⟩, fun U hU hW => ⟨rfl, by rw [hU], by rw [hU]; exact hPc, va_K.moved hW.alike hK, hDc.weaken (fun _ _ _ _ => trivial)⟩⟩ rfl rfl hl.1 rfl (lv_room (Nat.le_of_ble_eq_true rfl)) dX0_walk_1 ⟨Nat.le_of_ble_eq_true rfl, Nat.le_of_ble_eq_true rfl⟩) hS (fun q _ h => hFc q h) hFc (fun r_1 u t H1 locs ht hvm hw hB hz1 hk1 hS => ?_)
  obtain ⟨hu9, hw⟩ := hw
  rw [hu9] at hB
  clear hu9
  obtain ⟨k_2, hP1, hD1⟩ := hB
  rw [ht] at hP1
  obtain ⟨hP, hD⟩ := va_join (wr := [(h0, .inr (0, [.ref h1, .ref h2, .ref h3, .ref h4, .ref h5, .ref h6, .int a0, .int a1, .int a2, .int a3])), (h1, .inl (cI, 2520, .inl g0)), (h2, .inl (cI, 2520, .inl g1)), (h4, .inl (cI, 4096, .inl g3)), (h5, .inl (cI, 81, .inl g4)), (h7, .inr (7, [.ref h8, .ref h9, .ref h10, .ref h11, .ref h12, .ref h13, .int a4, .int a5, .int a6, .int a7, .int a8, .int a9, .int a10, .int a11])), (h9, .inl (cI, 9, .inl g7))]) (w1 := []) hP hD [] [0, 1, 2, 3, 4, 5, 6] rfl rfl (by decide) (by decide) hk1 hFc hP1 hD1
  generalize H1 = H at hP hS ⊢
  replace hP : va_P (dC, dI) vwCl [(h0, .inr (0, [.ref h1, .ref h2, .ref h3, .ref h4, .ref h5, .ref h6, .int a0, .int a1, .int a2, .int a3])), (h1, .inl (cI, 2520, .inl g0)), (h2, .inl (cI, 2520, .inl g1)), (h4, .inl (cI, 4096, .inl g3)), (h5, .inl (cI, 81, .inl g4)), (h7, .inr (7, [.ref h8, .ref h9, .ref h10, .ref h11, .ref h12, .ref h13, .int a4, .int a5, .int a6, .int a7, .int a8, .int a9, .int a10, .int a11])), (h9, .inl (cI, 9, .inl g7))] H := hP
  replace hD : va_D A [(h0, .inr (0, [.ref h1, .ref h2, .ref h3, .ref h4, .ref h5, .ref h6, .int a0, .int a1, .int a2, .int a3])), (h1, .inl (cI, 2520, .inl g0)), (h2, .inl (cI, 2520, .inl g1)), (h4, .inl (cI, 4096, .inl g3)), (h5, .inl (cI, 81, .inl g4)), (h7, .inr (7, [.ref h8, .ref h9, .ref h10, .ref h11, .ref h12, .ref h13, .int a4, .int a5, .int a6, .int a7, .int a8, .int a9, .int a10, .int a11])), (h9, .inl (cI, 9, .inl g7))] := hD
  have hr_1 : rg (0) (9) r_1 := hw.1
  have kr_1_0 : rg (0) (8) r_1 → rg (0) (510) p1 := hw.2
  refine tp_v (.int 7) (congrArg Value.int (k_2.trans kr1)) ?_
  refine lv_istore (lv' := [(6, .int 7), (0, .ref h0), (1, .ref h7), (2, .int p1), (3, .int p2), (4, .int p3), (5, .int p4)]) hx hb dX0_walk_4 hl (by decide) rfl (fun ls hl => ?_)
  refine lv_iload hx hb dX0_walk_6 (lv_at hl 0 rfl) ?_
  refine lv_aload_n hx hb dX0_walk_8 rfl (lv_at hl 1 rfl) ?_
  refine va_get (D := (dC, dI)) (ci := 0) (v := .int a2) (C := RX0) (T := TX0) (N := 10) hx hb hts hinX0 hown hK hP 0 rfl rfl 8 (by decide) (hts (.fieldLink RX0 37 "MayRings$Families" "size" "I") (List.mem_of_getElem? (i := 4) rfl)) (fun _ h9 => h9) rfl dX0_walk_9 ?_
  refine lv_icmp_lt (tgt := 26) hx hb dX0_walk_12 (by decide) (fun c_3 => ?_) (fun c_3 => ?_)
  · skip
    exfalso; have ha := (rg_k (x := 7) (c := 7) (by decide)); have hb_ := ha2; simp only [rg, fa_lt, fa_le, fa_eq, (by decide : (7 : Int32).toInt = 7)] at ha hb_ c_3; omega
  · skip
    refine lv_aload_n hx hb dX0_walk_15 rfl (lv_at hl 1 rfl) ?_
    refine lv_aload_n hx hb dX0_walk_16 rfl (lv_at hl 2 rfl) ?_
    refine lv_iload_n hx hb dX0_walk_17 rfl (lv_at hl 4 rfl) ?_
    refine lv_iload hx hb dX0_walk_18 (lv_at hl 5 rfl) ?_
    refine lv_iload hx hb dX0_walk_20 (lv_at hl 6 rfl) ?_
    have hPc := hP.sub (ws' := [(h0, .inr (0, [.ref h1, .ref h2, .ref h3, .ref h4, .ref h5, .ref h6, .int a0, .int a1, .int a2, .int a3])), (h1, .inl (cI, 2520, .inl g0)), (h2, .inl (cI, 2520, .inl g1)), (h4, .inl (cI, 4096, .inl g3)), (h5, .inl (cI, 81, .inl g4)), (h7, .inr (7, [.ref h8, .ref h9, .ref h10, .ref h11, .ref h12, .ref h13, .int a4, .int a5, .int a6, .int a7, .int a8, .int a9, .int a10, .int a11])), (h9, .inl (cI, 9, .inl g7))]) [0, 1, 2, 3, 4, 5, 6] rfl
    have hDc := hD.sub (ws' := [(h0, .inr (0, [.ref h1, .ref h2, .ref h3, .ref h4, .ref h5, .ref h6, .int a0, .int a1, .int a2, .int a3])), (h1, .inl (cI, 2520, .inl g0)), (h2, .inl (cI, 2520, .inl g1)), (h4, .inl (cI, 4096, .inl g3)), (h5, .inl (cI, 81, .inl g4)), (h7, .inr (7, [.ref h8, .ref h9, .ref h10, .ref h11, .ref h12, .ref h13, .int a4, .int a5, .int a6, .int a7, .int a8, .int a9, .int a10, .int a11])), (h9, .inl (cI, 9, .inl g7))]) [0, 1, 2, 3, 4, 5, 6] (by decide) rfl
    have hFc := va_free (wc := [(h0, .inr (0, [.ref h1, .ref h2, .ref h3, .ref h4, .ref h5, .ref h6, .int a0, .int a1, .int a2, .int a3])), (h1, .inl (cI, 2520, .inl g0)), (h2, .inl (cI, 2520, .inl g1)), (h4, .inl (cI, 4096, .inl g3)), (h5, .inl (cI, 81, .inl g4)), (h7, .inr (7, [.ref h8, .ref h9, .ref h10, .ref h11, .ref h12, .ref h13, .int a4, .int a5, .int a6, .int a7, .int a8, .int a9, .int a10, .int a11])), (h9, .inl (cI, 9, .inl g7))]) hD hS hA [0, 1, 2, 3, 4, 5, 6] rfl
    refine va_callv (va_runV (As := [.ref h7, .int p2, .int p3, .int p4]) (rest := []) ⟨hx, hb, hml, hown, hts⟩ (c_s_X0_close l dC dI cB cI cJ cZ cP h0 h1 g0 h2 g1 h3 h4 g3 h5 g4 h6 a0 (rg_mono ha0 (by decide) (by decide)) a1 a2 a3 h7 h8 h9 g7 hg7 h10 h11 h12 h13 a4 a5 a6 (rg_mono ha6 (by decide) (by decide)) a7 a8 a9 a10 a11 p2 (rg_mono hp2 (by decide) (by decide)) p3 p4 kr0 (show nb p4 from nb_of kr2) H.size) (cwV 4 hts (gd_V (List.mem_of_getElem? (i := 5) rfl) (List.mem_of_getElem? (i := 6) rfl) (List.mem_of_getElem? (i := 7) rfl) (List.mem_of_getElem? (i := 8) rfl) (gd_mono k_s_X0_close (fun _ h => List.mem_cons_of_mem _ (List.mem_append_right _ (List.mem_append_right _ (List.mem_append_right _ (List.mem_append_left _ h))))))) rfl rfl rfl (by decide +kernel) ⟨Nat.le_of_ble_eq_true rfl, Nat.le_of_ble_eq_true rfl⟩) ⟨fun a U g mk q => by obtain ⟨q0, q1, qP, qK, qD⟩ := q; exact ⟨q0, q1, qP, va_K.moved (u := U) (U := U.calling g mk a) (Vm.Alike.refl U.vm) qK, qD⟩, va_recv hK hPc (ci := 0) (q0 := 0) rfl rfl, fun U hU hW => ⟨rfl, by rw [hU], by rw [hU]; exact hPc, va_K.moved hW.alike hK, hDc.weaken (fun _ _ _ _ => trivial)⟩⟩ rfl rfl hl.1 rfl (lv_room (Nat.le_of_ble_eq_true rfl)) dX0_walk_22 ⟨Nat.le_of_ble_eq_true rfl, Nat.le_of_ble_eq_true rfl⟩) hS (fun q _ h => hFc q h) hFc (fun u t H1 locs ht hvm hw hB hz1 hk1 hS => ?_)
    obtain ⟨x_5, x_6, f_7, f_8, f_9, hx_5, k_10, hP1, hD1⟩ := hB
    rw [ht] at hP1
    obtain ⟨hP, hD⟩ := va_join (wr := []) (w1 := [(h0, .inr (0, [.ref h1, .ref h2, .ref h3, .ref h4, .ref h5, .ref h6, .int x_5, .int a1, .int a2, .int x_6])), (h1, .inl (cI, 2520, .inl f_7)), (h2, .inl (cI, 2520, .inl f_8)), (h4, .inl (cI, 4096, .inl f_9)), (h5, .inl (cI, 81, .inl g4)), (h7, .inr (7, [.ref h8, .ref h9, .ref h10, .ref h11, .ref h12, .ref h13, .int a4, .int a5, .int a6, .int a7, .int a8, .int a9, .int a10, .int a11])), (h9, .inl (cI, 9, .inl g7))]) hP hD [0, 1, 2, 3, 4, 5, 6] [] rfl rfl (by decide) (by decide) hk1 hFc hP1 hD1
    generalize H1 = H at hP hS ⊢
    replace hP : va_P (dC, dI) vwCl [(h0, .inr (0, [.ref h1, .ref h2, .ref h3, .ref h4, .ref h5, .ref h6, .int x_5, .int a1, .int a2, .int x_6])), (h1, .inl (cI, 2520, .inl f_7)), (h2, .inl (cI, 2520, .inl f_8)), (h4, .inl (cI, 4096, .inl f_9)), (h5, .inl (cI, 81, .inl g4)), (h7, .inr (7, [.ref h8, .ref h9, .ref h10, .ref h11, .ref h12, .ref h13, .int a4, .int a5, .int a6, .int a7, .int a8, .int a9, .int a10, .int a11])), (h9, .inl (cI, 9, .inl g7))] H := hP
    replace hD : va_D A [(h0, .inr (0, [.ref h1, .ref h2, .ref h3, .ref h4, .ref h5, .ref h6, .int x_5, .int a1, .int a2, .int x_6])), (h1, .inl (cI, 2520, .inl f_7)), (h2, .inl (cI, 2520, .inl f_8)), (h4, .inl (cI, 4096, .inl f_9)), (h5, .inl (cI, 81, .inl g4)), (h7, .inr (7, [.ref h8, .ref h9, .ref h10, .ref h11, .ref h12, .ref h13, .int a4, .int a5, .int a6, .int a7, .int a8, .int a9, .int a10, .int a11])), (h9, .inl (cI, 9, .inl g7))] := hD
    have hP9 := hP.sub (ws' := [(h0, .inr (0, [.ref h1, .ref h2, .ref h3, .ref h4, .ref h5, .ref h6, .int x_5, .int a1, .int a2, .int x_6])), (h1, .inl (cI, 2520, .inl f_7)), (h2, .inl (cI, 2520, .inl f_8)), (h4, .inl (cI, 4096, .inl f_9)), (h5, .inl (cI, 81, .inl g4)), (h7, .inr (7, [.ref h8, .ref h9, .ref h10, .ref h11, .ref h12, .ref h13, .int a4, .int a5, .int a6, .int a7, .int a8, .int a9, .int a10, .int a11])), (h9, .inl (cI, 9, .inl g7))]) [0, 1, 2, 3, 4, 5, 6] rfl
    have hD9 := hD.sub (ws' := [(h0, .inr (0, [.ref h1, .ref h2, .ref h3, .ref h4, .ref h5, .ref h6, .int x_5, .int a1, .int a2, .int x_6])), (h1, .inl (cI, 2520, .inl f_7)), (h2, .inl (cI, 2520, .inl f_8)), (h4, .inl (cI, 4096, .inl f_9)), (h5, .inl (cI, 81, .inl g4)), (h7, .inr (7, [.ref h8, .ref h9, .ref h10, .ref h11, .ref h12, .ref h13, .int a4, .int a5, .int a6, .int a7, .int a8, .int a9, .int a10, .int a11])), (h9, .inl (cI, 9, .inl g7))]) [0, 1, 2, 3, 4, 5, 6] (by decide) rfl
    exact W.vret hx hb hr (fun t ht hW => ⟨⟨(), rfl, trivial, ⟨x_5, x_6, f_7, f_8, f_9, (rg_mono hx_5 (by decide) (by decide)), k_10, by rw [ht]; exact hP9, hD9⟩⟩, hS.F ht⟩) hS.2.2 dX0_walk_25
def v_s_X0_walk_k6 : List Cond := Cond.code yX0_walk cX0_walk 9 none :: ([Cond.methodLink RX0 81 yJ6_bitCount_0f7a4, Cond.static yJ6_bitCount_0f7a4, Cond.initialized RJ6, Cond.fieldLink RX0 37 "MayRings$Families" "size" "I", Cond.fieldLink RX0 67 "MayRings$Ways" "ground" "[I", Cond.fieldLink RX0 78 "MayRings$Ways" "pairs" "[I", Cond.fieldLink RX0 24 "MayRings$Families" "bits" "[I", Cond.methodLink RX0 70 yX0_walk, Cond.instanceMethod yX0_walk, Cond.selects RX0 yX0_walk yX0_walk, Cond.initialized RX0, Cond.methodLink RX0 87 yX0_close, Cond.instanceMethod yX0_close, Cond.selects RX0 yX0_close yX0_close] ++ (wsX00 ++ (wsX70 ++ (v_s_J6_bitCount_0f7a4_b9 ++ (v_s_X0_walk_k7 ++ (v_s_X0_close ++ ([])))))))
theorem k_s_X0_walk_k6 : GoodIn lw_tbl v_s_X0_walk_k6 := gd_c (List.mem_of_getElem? (i := 1051) (by decide +kernel)) rfl (goodIn_app (gd_c (List.mem_of_getElem? (i := 1052) (by decide +kernel)) rfl (gd_c (List.mem_of_getElem? (i := 878) (by decide +kernel)) rfl (gd_c (List.mem_of_getElem? (i := 147) (by decide +kernel)) rfl (gd_c (List.mem_of_getElem? (i := 508) (by decide +kernel)) rfl (gd_c (List.mem_of_getElem? (i := 441) (by decide +kernel)) rfl (gd_c (List.mem_of_getElem? (i := 444) (by decide +kernel)) rfl (gd_c (List.mem_of_getElem? (i := 504) (by decide +kernel)) rfl (gd_c (List.mem_of_getElem? (i := 1048) (by decide +kernel)) rfl (gd_c (List.mem_of_getElem? (i := 1050) (by decide +kernel)) rfl (gd_c (List.mem_of_getElem? (i := 56) (by decide +kernel)) rfl (gd_c (List.mem_of_getElem? (i := 143) (by decide +kernel)) rfl (gd_c (List.mem_of_getElem? (i := 1053) (by decide +kernel)) rfl (gd_c (List.mem_of_getElem? (i := 1055) (by decide +kernel)) rfl (gd_c (List.mem_of_getElem? (i := 57) (by decide +kernel)) rfl (gd_nil))))))))))))))) (goodIn_app kfX0 (goodIn_app kfX7 (goodIn_app k_s_J6_bitCount_0f7a4_b9 (goodIn_app k_s_X0_walk_k7 (goodIn_app k_s_X0_close (gd_nil)))))))
set_option maxHeartbeats 2000000 in
set_option maxRecDepth 100000 in
theorem c_s_X0_walk_k6 (l : Launch) (dC : Nat → ClassId) (dI : Nat → Nat → Nat) (cB cI cJ cZ cP : ClassId) (h0 : Nat) (h1 : Nat) (g0 : Nat → Int32) (h2 : Nat) (g1 : Nat → Int32) (h3 : Nat) (h4 : Nat) (g3 : Nat → Int32) (h5 : Nat) (g4 : Nat → Int32) (h6 : Nat) (a0 : Int32) (ha0 : rg (0) (2520) a0) (a1 : Int32) (a2 : Int32) (ha2 : rg (1) (7) a2) (a3 : Int32) (h7 : Nat) (h8 : Nat) (g6 : Nat → Int32) (hg6 : rgA (0) (511) g6) (h9 : Nat) (g7 : Nat → Int32) (hg7 : rgA (0) (511) g7) (h10 : Nat) (h11 : Nat) (h12 : Nat) (h13 : Nat) (a4 : Int32) (a5 : Int32) (a6 : Int32) (ha6 : rg (0) (1) a6) (a7 : Int32) (a8 : Int32) (a9 : Int32) (a10 : Int32) (a11 : Int32) (p1 : Int32) (hp1 : rg (0) (511) p1) (p2 : Int32) (hp2 : rg (0) (8) p2) (p3 : Int32) (p4 : Int32) (kr0 : nbA g1) (kr1 : bcE p1 = 6) (kr2 : nbk 6 p4) (sz : Nat) : Met l yX0_walk v_s_X0_walk_k6 ({ frames := 3, cells := 0, slots := 0, locals := 77 }) (va_Pc [.ref h0, .ref h7, .int p1, .int p2, .int p3, .int p4] (fun U => U.heap.size = sz ∧ va_P (dC, dI) vwCl [(h0, .inr (0, [.ref h1, .ref h2, .ref h3, .ref h4, .ref h5, .ref h6, .int a0, .int a1, .int a2, .int a3])), (h1, .inl (cI, 2520, .inl g0)), (h2, .inl (cI, 2520, .inl g1)), (h4, .inl (cI, 4096, .inl g3)), (h5, .inl (cI, 81, .inl g4)), (h7, .inr (7, [.ref h8, .ref h9, .ref h10, .ref h11, .ref h12, .ref h13, .int a4, .int a5, .int a6, .int a7, .int a8, .int a9, .int a10, .int a11])), (h8, .inl (cI, 9, .inl g6)), (h9, .inl (cI, 9, .inl g7))] U.heap ∧ va_K (dC, dI) vwCl (ty5 cB cI cJ cZ cP) U ∧ va_D (fun _ => True) [(h0, .inr (0, [.ref h1, .ref h2, .ref h3, .ref h4, .ref h5, .ref h6, .int a0, .int a1, .int a2, .int a3])), (h1, .inl (cI, 2520, .inl g0)), (h2, .inl (cI, 2520, .inl g1)), (h4, .inl (cI, 4096, .inl g3)), (h5, .inl (cI, 81, .inl g4)), (h7, .inr (7, [.ref h8, .ref h9, .ref h10, .ref h11, .ref h12, .ref h13, .int a4, .int a5, .int a6, .int a7, .int a8, .int a9, .int a10, .int a11])), (h8, .inl (cI, 9, .inl g6)), (h9, .inl (cI, 9, .inl g7))])) (va_Qv (fun _ : Unit => True) (fun _ t => ∃ (z0 : Int32) (z1 : Int32) (z2 : Nat → Int32) (z3 : Nat → Int32) (z4 : Nat → Int32), rg (0) (2520) z0 ∧ (nbA z3) ∧ va_P (dC, dI) vwCl [(h0, .inr (0, [.ref h1, .ref h2, .ref h3, .ref h4, .ref h5, .ref h6, .int z0, .int a1, .int a2, .int z1])), (h1, .inl (cI, 2520, .inl z2)), (h2, .inl (cI, 2520, .inl z3)), (h4, .inl (cI, 4096, .inl z4)), (h5, .inl (cI, 81, .inl g4)), (h7, .inr (7, [.ref h8, .ref h9, .ref h10, .ref h11, .ref h12, .ref h13, .int a4, .int a5, .int a6, .int a7, .int a8, .int a9, .int a10, .int a11])), (h8, .inl (cI, 9, .inl g6)), (h9, .inl (cI, 9, .inl g7))] t.heap ∧ va_D (va_A [(h0, .inr (0, [.ref h1, .ref h2, .ref h3, .ref h4, .ref h5, .ref h6, .int a0, .int a1, .int a2, .int a3])), (h1, .inl (cI, 2520, .inl g0)), (h2, .inl (cI, 2520, .inl g1)), (h4, .inl (cI, 4096, .inl g3)), (h5, .inl (cI, 81, .inl g4)), (h7, .inr (7, [.ref h8, .ref h9, .ref h10, .ref h11, .ref h12, .ref h13, .int a4, .int a5, .int a6, .int a7, .int a8, .int a9, .int a10, .int a11])), (h8, .inl (cI, 9, .inl g6)), (h9, .inl (cI, 9, .inl g7))] sz) [(h0, .inr (0, [.ref h1, .ref h2, .ref h3, .ref h4, .ref h5, .ref h6, .int z0, .int a1, .int a2, .int z1])), (h1, .inl (cI, 2520, .inl z2)), (h2, .inl (cI, 2520, .inl z3)), (h4, .inl (cI, 4096, .inl z4)), (h5, .inl (cI, 81, .inl g4)), (h7, .inr (7, [.ref h8, .ref h9, .ref h10, .ref h11, .ref h12, .ref h13, .int a4, .int a5, .int a6, .int a7, .int a8, .int a9, .int a10, .int a11])), (h8, .inl (cI, 9, .inl g6)), (h9, .inl (cI, 9, .inl g7))]) (va_A [(h0, .inr (0, [.ref h1, .ref h2, .ref h3, .ref h4, .ref h5, .ref h6, .int a0, .int a1, .int a2, .int a3])), (h1, .inl (cI, 2520, .inl g0)), (h2, .inl (cI, 2520, .inl g1)), (h4, .inl (cI, 4096, .inl g3)), (h5, .inl (cI, 81, .inl g4)), (h7, .inr (7, [.ref h8, .ref h9, .ref h10, .ref h11, .ref h12, .ref h13, .int a4, .int a5, .int a6, .int a7, .int a8, .int a9, .int a10, .int a11])), (h8, .inl (cI, 9, .inl g6)), (h9, .inl (cI, 9, .inl g7))] sz)) 0 0 (va_A [(h0, .inr (0, [.ref h1, .ref h2, .ref h3, .ref h4, .ref h5, .ref h6, .int a0, .int a1, .int a2, .int a3])), (h1, .inl (cI, 2520, .inl g0)), (h2, .inl (cI, 2520, .inl g1)), (h4, .inl (cI, 4096, .inl g3)), (h5, .inl (cI, 81, .inl g4)), (h7, .inr (7, [.ref h8, .ref h9, .ref h10, .ref h11, .ref h12, .ref h13, .int a4, .int a5, .int a6, .int a7, .int a8, .int a9, .int a10, .int a11])), (h8, .inl (cI, 9, .inl g6)), (h9, .inl (cI, 9, .inl g7))] sz) := by
  refine Met.ofW (cc := cX0_walk) (maxL := 9) (ret := none) (by decide) rfl ?_
  intro p e s m args below meth c s₁ B hml hv
  obtain ⟨rfl, hsz, hP, hK, hD0⟩ := hv
  have hx := B.exec
  have hb := B.bytes
  have hr := B.returns
  have hts := atoms_spec (ws := v_s_X0_walk_k6) B.pre
  have hown : s.vm.findClass RX0 = some m.cls := findClass_of_methodNamed B.named
  have hlocks := B.notSynchronized
  have hinX0 : ∀ w ∈ wsX00, w ∈ v_s_X0_walk_k6 := fun _ h => List.mem_cons_of_mem _ (List.mem_append_right _ (List.mem_append_left _ h))
  have hinX7 : ∀ w ∈ wsX70, w ∈ v_s_X0_walk_k6 := fun _ h => List.mem_cons_of_mem _ (List.mem_append_right _ (List.mem_append_right _ (List.mem_append_left _ h)))
  subst hsz
  have hD := hD0.self (sz := s.heap.size)
  generalize hAe : va_A [(h0, .inr (0, [.ref h1, .ref h2, .ref h3, .ref h4, .ref h5, .ref h6, .int a0, .int a1, .int a2, .int a3])), (h1, .inl (cI, 2520, .inl g0)), (h2, .inl (cI, 2520, .inl g1)), (h4, .inl (cI, 4096, .inl g3)), (h5, .inl (cI, 81, .inl g4)), (h7, .inr (7, [.ref h8, .ref h9, .ref h10, .ref h11, .ref h12, .ref h13, .int a4, .int a5, .int a6, .int a7, .int a8, .int a9, .int a10, .int a11])), (h8, .inl (cI, 9, .inl g6)), (h9, .inl (cI, 9, .inl g7))] s.heap.size = A at hD ⊢
  have hA : ∀ q : Nat, s.heap.size ≤ q → A q := fun q h => by rw [← hAe]; exact Or.inr h
  have hP : va_P (dC, dI) vwCl [(h0, .inr (0, [.ref h1, .ref h2, .ref h3, .ref h4, .ref h5, .ref h6, .int a0, .int a1, .int a2, .int a3])), (h1, .inl (cI, 2520, .inl g0)), (h2, .inl (cI, 2520, .inl g1)), (h4, .inl (cI, 4096, .inl g3)), (h5, .inl (cI, 81, .inl g4)), (h7, .inr (7, [.ref h8, .ref h9, .ref h10, .ref h11, .ref h12, .ref h13, .int a4, .int a5, .int a6, .int a7, .int a8, .int a9, .int a10, .int a11])), (h8, .inl (cI, 9, .inl g6)), (h9, .inl (cI, 9, .inl g7))] s.heap := hP
  have hl := lv_entry ([.ref h0, .ref h7, .int p1, .int p2, .int p3, .int p4]) (n := 9) (Nat.le_of_ble_eq_true rfl)
  rw [lg_entry_eq]
  generalize (lg_sl ([.ref h0, .ref h7, .int p1, .int p2, .int p3, .int p4]) ++ List.replicate (9 - (lg_sl ([.ref h0, .ref h7, .int p1, .int p2, .int p3, .int p4])).length) Slot.unset).toArray = ls at hl ⊢
  have hl : lv_has ls 9 [(0, .ref h0), (1, .ref h7), (2, .int p1), (3, .int p2), (4, .int p3), (5, .int p4)] := hl
  refine W_gen (A := A) hP (fun H locs hP hS => ?_)
  refine lv_iload_n hx hb dX0_walk_0 rfl (lv_at hl 2 rfl) ?_
  have hPc := hP.sub (ws' := []) [] rfl
  have hDc := hD.sub (ws' := []) [] (by decide) rfl
  have hFc := va_free (wc := []) hD hS hA [] rfl
  refine va_calli (va_runS (As := [.int p1]) (rest := []) ⟨hx, hb, hml, hown, hts⟩ (c_s_J6_bitCount_0f7a4_b9 l dC dI cB cI cJ cZ cP p1 (rg_mono hp1 (by decide) (by decide)) H.size) (va_cwS 1 hts (gd_S (List.mem_of_getElem? (i := 1) rfl) (List.mem_of_getElem? (i := 2) rfl) (List.mem_of_getElem? (i := 3) rfl) (gd_mono k_s_J6_bitCount_0f7a4_b9 (fun _ h => List.mem_cons_of_mem _ (List.mem_append_right _ (List.mem_append_right _ (List.mem_append_right _ (List.mem_append_left _ h))))))) rfl rfl rfl (by decide +kernel) ⟨Nat.le_of_ble_eq_true rfl, Nat.le_of_ble_eq_true rfl⟩) ⟨fun a U g mk q => by obtain ⟨q0, q1, qP, qK, qD⟩ := q; exact ⟨q0, q1, qP, va_K.moved (u := U) (U := U.calling g mk a) (Vm.Alike.refl U.vm) qK, qD⟩, fun U hU hW => ⟨rfl, by rw [hU], by rw [hU]; exact hPc, va_K.moved hW.alike hK, hDc.weaken (fun _ _ _ _ => trivial)⟩⟩ rfl rfl hl.1 rfl (lv_room (Nat.le_of_ble_eq_true rfl)) dX0_walk_1 ⟨Nat.le_of_ble_eq_true rfl, Nat.le_of_ble_eq_true rfl⟩) hS (fun q _ h => hFc q h) hFc (fun r_1 u t H1 locs ht hvm hw hB hz1 hk1 hS => ?_)
  obtain ⟨hu9, hw⟩ := hw
  rw [hu9] at hB
  clear hu9
  obtain ⟨k_2, hP1, hD1⟩ := hB
  rw [ht] at hP1
  obtain ⟨hP, hD⟩ := va_join (wr := [(h0, .inr (0, [.ref h1, .ref h2, .ref h3, .ref h4, .ref h5, .ref h6, .int a0, .int a1, .int a2, .int a3])), (h1, .inl (cI, 2520, .inl g0)), (h2, .inl (cI, 2520, .inl g1)), (h4, .inl (cI, 4096, .inl g3)), (h5, .inl (cI, 81, .inl g4)), (h7, .inr (7, [.ref h8, .ref h9, .ref h10, .ref h11, .ref h12, .ref h13, .int a4, .int a5, .int a6, .int a7, .int a8, .int a9, .int a10, .int a11])), (h8, .inl (cI, 9, .inl g6)), (h9, .inl (cI, 9, .inl g7))]) (w1 := []) hP hD [] [0, 1, 2, 3, 4, 5, 6, 7] rfl rfl (by decide) (by decide) hk1 hFc hP1 hD1
  generalize H1 = H at hP hS ⊢
  replace hP : va_P (dC, dI) vwCl [(h0, .inr (0, [.ref h1, .ref h2, .ref h3, .ref h4, .ref h5, .ref h6, .int a0, .int a1, .int a2, .int a3])), (h1, .inl (cI, 2520, .inl g0)), (h2, .inl (cI, 2520, .inl g1)), (h4, .inl (cI, 4096, .inl g3)), (h5, .inl (cI, 81, .inl g4)), (h7, .inr (7, [.ref h8, .ref h9, .ref h10, .ref h11, .ref h12, .ref h13, .int a4, .int a5, .int a6, .int a7, .int a8, .int a9, .int a10, .int a11])), (h8, .inl (cI, 9, .inl g6)), (h9, .inl (cI, 9, .inl g7))] H := hP
  replace hD : va_D A [(h0, .inr (0, [.ref h1, .ref h2, .ref h3, .ref h4, .ref h5, .ref h6, .int a0, .int a1, .int a2, .int a3])), (h1, .inl (cI, 2520, .inl g0)), (h2, .inl (cI, 2520, .inl g1)), (h4, .inl (cI, 4096, .inl g3)), (h5, .inl (cI, 81, .inl g4)), (h7, .inr (7, [.ref h8, .ref h9, .ref h10, .ref h11, .ref h12, .ref h13, .int a4, .int a5, .int a6, .int a7, .int a8, .int a9, .int a10, .int a11])), (h8, .inl (cI, 9, .inl g6)), (h9, .inl (cI, 9, .inl g7))] := hD
  have hr_1 : rg (0) (9) r_1 := hw.1
  have kr_1_0 : rg (0) (8) r_1 → rg (0) (510) p1 := hw.2
  refine tp_v (.int 6) (congrArg Value.int (k_2.trans kr1)) ?_
  refine lv_istore (lv' := [(6, .int 6), (0, .ref h0), (1, .ref h7), (2, .int p1), (3, .int p2), (4, .int p3), (5, .int p4)]) hx hb dX0_walk_4 hl (by decide) rfl (fun ls hl => ?_)
  refine lv_iload hx hb dX0_walk_6 (lv_at hl 0 rfl) ?_
  refine lv_aload_n hx hb dX0_walk_8 rfl (lv_at hl 1 rfl) ?_
  refine va_get (D := (dC, dI)) (ci := 0) (v := .int a2) (C := RX0) (T := TX0) (N := 10) hx hb hts hinX0 hown hK hP 0 rfl rfl 8 (by decide) (hts (.fieldLink RX0 37 "MayRings$Families" "size" "I") (List.mem_of_getElem? (i := 4) rfl)) (fun _ h9 => h9) rfl dX0_walk_9 ?_
  refine lv_icmp_lt (tgt := 26) hx hb dX0_walk_12 (by decide) (fun c_3 => ?_) (fun c_3 => ?_)
  · skip
    have h_4 : rg (7) (7) a2 := by have ha := (rg_k (x := 6) (c := 6) (by decide)); have hb_ := ha2; simp only [rg, fa_lt, fa_le, fa_eq, (by decide : (6 : Int32).toInt = 6)] at ha hb_ c_3; simp only [rg]; omega
    refine lv_aload_n hx hb dX0_walk_26 rfl (lv_at hl 2 rfl) ?_
    refine va_get (D := (dC, dI)) (ci := 7) (v := .ref h8) (C := RX7) (T := TX7) (N := 14) hx hb hts hinX7 hown hK hP 5 rfl rfl 0 (by decide) (hts (.fieldLink RX0 67 "MayRings$Ways" "ground" "[I") (List.mem_of_getElem? (i := 5) rfl)) (fun _ h9 => h9) rfl dX0_walk_27 ?_
    refine lv_iload hx hb dX0_walk_30 (lv_at hl 0 rfl) ?_
    refine va_iald hx hb hK hP 6 1 rfl rfl (rg_in (n := 9) (rg_mono (rg_k (x := 6) (c := 6) (by decide)) (by decide) (by decide))) dX0_walk_32 ?_
    refine lv_topi (fun x_5 ex_5 => ?_)
    have hx_5 : rg (0) (511) x_5 := by rw [ex_5]; exact rg_mono (hg6 _) (by decide) (by decide)
    refine lv_aload_n hx hb dX0_walk_33 rfl (lv_at hl 2 rfl) ?_
    refine va_get (D := (dC, dI)) (ci := 7) (v := .ref h9) (C := RX7) (T := TX7) (N := 14) hx hb hts hinX7 hown hK hP 5 rfl rfl 1 (by decide) (hts (.fieldLink RX0 78 "MayRings$Ways" "pairs" "[I") (List.mem_of_getElem? (i := 6) rfl)) (fun _ h9 => h9) rfl dX0_walk_34 ?_
    refine lv_iload_n hx hb dX0_walk_37 rfl (lv_at hl 4 rfl) ?_
    refine va_iald hx hb hK hP 7 1 rfl rfl (rg_in (n := 9) (rg_mono hp2 (by decide) (by decide))) dX0_walk_38 ?_
    refine lv_topi (fun x_6 ex_6 => ?_)
    have hx_6 : rg (0) (511) x_6 := by rw [ex_6]; exact rg_mono (hg7 _) (by decide) (by decide)
    refine lv_iand hx hb dX0_walk_39 ?_
    refine lv_topi (fun x_7 ex_7 => ?_)
    have hx_7 : rg (0) (511) x_7 := by rw [ex_7]; exact rg_mono (rg_andl (b := 511) (rg_mono hx_5 (by decide) (by decide))) (by decide) (by decide)
    have kx_7_0 : rg 1 2147483647 x_7 → rg 1 (511) x_5 := fun hq => rg_andP hx_5 (ex_7 ▸ hq)
    have kx_7_1 : rg 1 2147483647 x_7 → rg 1 (511) x_6 := fun hq => rg_andP' hx_6 (ex_7 ▸ hq)
    refine lv_iload_n hx hb dX0_walk_40 rfl (lv_at hl 3 rfl) ?_
    refine lv_iconst (v := (-1)) hx hb dX0_walk_41 (by decide) ?_
    refine lv_ixor hx hb dX0_walk_42 ?_
    refine lv_topi (fun x_8 ex_8 => ?_)
    refine lv_iand hx hb dX0_walk_43 ?_
    refine lv_topi (fun x_9 ex_9 => ?_)
    have hx_9 : rg (0) (511) x_9 := by rw [ex_9]; exact rg_mono (rg_andl (b := 511) (rg_mono hx_7 (by decide) (by decide))) (by decide) (by decide)
    have kx_9_0 : rg 1 2147483647 x_9 → rg 1 (511) x_7 := fun hq => rg_andP hx_7 (ex_9 ▸ hq)
    refine lv_istore (lv' := [(7, .int x_9), (6, .int 6), (0, .ref h0), (1, .ref h7), (2, .int p1), (3, .int p2), (4, .int p3), (5, .int p4)]) hx hb dX0_walk_44 hl (by decide) rfl (fun ls hl => ?_)
    refine lv_iconst (v := 0) hx hb dX0_walk_46 (by decide) ?_
    refine lv_istore (lv' := [(8, .int 0), (7, .int x_9), (6, .int 6), (0, .ref h0), (1, .ref h7), (2, .int p1), (3, .int p2), (4, .int p3), (5, .int p4)]) hx hb dX0_walk_47 hl (by decide) rfl (fun ls hl => ?_)
    refine W_loopM (σ := Int32 × (Nat → Int32) × (Nat → Int32) × (Nat → Int32) × Int32 × Int32) (fun u H locs ls => va_P (dC, dI) vwCl [(h0, .inr (0, [.ref h1, .ref h2, .ref h3, .ref h4, .ref h5, .ref h6, .int u.2.2.2.2.1, .int a1, .int a2, .int u.2.2.2.2.2])), (h1, .inl (cI, 2520, .inl u.2.1)), (h2, .inl (cI, 2520, .inl u.2.2.1)), (h4, .inl (cI, 4096, .inl u.2.2.2.1)), (h5, .inl (cI, 81, .inl g4)), (h7, .inr (7, [.ref h8, .ref h9, .ref h10, .ref h11, .ref h12, .ref h13, .int a4, .int a5, .int a6, .int a7, .int a8, .int a9, .int a10, .int a11])), (h8, .inl (cI, 9, .inl g6)), (h9, .inl (cI, 9, .inl g7))] H ∧ va_D A [(h0, .inr (0, [.ref h1, .ref h2, .ref h3, .ref h4, .ref h5, .ref h6, .int u.2.2.2.2.1, .int a1, .int a2, .int u.2.2.2.2.2])), (h1, .inl (cI, 2520, .inl u.2.1)), (h2, .inl (cI, 2520, .inl u.2.2.1)), (h4, .inl (cI, 4096, .inl u.2.2.2.1)), (h5, .inl (cI, 81, .inl g4)), (h7, .inr (7, [.ref h8, .ref h9, .ref h10, .ref h11, .ref h12, .ref h13, .int a4, .int a5, .int a6, .int a7, .int a8, .int a9, .int a10, .int a11])), (h8, .inl (cI, 9, .inl g6)), (h9, .inl (cI, 9, .inl g7))] ∧ va_S A s.heap H locs ∧ lv_has ls 9 [(8, .int u.1), (7, .int x_9), (6, .int 6), (0, .ref h0), (1, .ref h7), (2, .int p1), (3, .int p2), (4, .int p3), (5, .int p4)] ∧ rg (0) (9) u.1 ∧ rg (0) (2520) u.2.2.2.2.1 ∧ (nbA u.2.2.1)) (fun u => ((9) - u.1.toInt).toNat) 49 [] ?_ (0, g0, g1, g3, a0, a3) H locs ls ⟨hP, hD, hS, hl, (rg_mono (rg_k (x := 0) (c := 0) (by decide)) (by decide) (by decide)), (rg_mono ha0 (by decide) (by decide)), kr0⟩
    rintro ⟨x_305, f_306, f_307, f_308, x_309, x_310⟩ H locs ls ⟨hP, hD, hS, hl, hx_305, hx_309, kl49_310_0⟩ ih_341
    replace kl49_310_0 : nbA f_307 := kl49_310_0
    replace hP : va_P (dC, dI) vwCl [(h0, .inr (0, [.ref h1, .ref h2, .ref h3, .ref h4, .ref h5, .ref h6, .int x_309, .int a1, .int a2, .int x_310])), (h1, .inl (cI, 2520, .inl f_306)), (h2, .inl (cI, 2520, .inl f_307)), (h4, .inl (cI, 4096, .inl f_308)), (h5, .inl (cI, 81, .inl g4)), (h7, .inr (7, [.ref h8, .ref h9, .ref h10, .ref h11, .ref h12, .ref h13, .int a4, .int a5, .int a6, .int a7, .int a8, .int a9, .int a10, .int a11])), (h8, .inl (cI, 9, .inl g6)), (h9, .inl (cI, 9, .inl g7))] H := hP
    replace hD : va_D A [(h0, .inr (0, [.ref h1, .ref h2, .ref h3, .ref h4, .ref h5, .ref h6, .int x_309, .int a1, .int a2, .int x_310])), (h1, .inl (cI, 2520, .inl f_306)), (h2, .inl (cI, 2520, .inl f_307)), (h4, .inl (cI, 4096, .inl f_308)), (h5, .inl (cI, 81, .inl g4)), (h7, .inr (7, [.ref h8, .ref h9, .ref h10, .ref h11, .ref h12, .ref h13, .int a4, .int a5, .int a6, .int a7, .int a8, .int a9, .int a10, .int a11])), (h8, .inl (cI, 9, .inl g6)), (h9, .inl (cI, 9, .inl g7))] := hD
    replace hl : lv_has ls 9 [(8, .int x_305), (7, .int x_9), (6, .int 6), (0, .ref h0), (1, .ref h7), (2, .int p1), (3, .int p2), (4, .int p3), (5, .int p4)] := hl
    replace hx_305 : rg (0) (9) x_305 := hx_305
    replace hx_309 : rg (0) (2520) x_309 := hx_309
    refine lv_iload hx hb dX0_walk_49 (lv_at hl 0 rfl) ?_
    refine lv_bipush (v := 9) hx hb dX0_walk_51 (by decide) ?_
    refine lv_icmp_ge (tgt := 111) hx hb dX0_walk_53 (by decide) (fun c_342 => ?_) (fun c_342 => ?_)
    · skip
      have h_343 : rg (9) (9) x_305 := by have ha := hx_305; have hb_ := (rg_k (x := 9) (c := 9) (by decide)); simp only [rg, fa_lt, fa_le, fa_eq, (by decide : (9 : Int32).toInt = 9)] at ha hb_ c_342; simp only [rg]; omega
      have hP9 := hP.sub (ws' := [(h0, .inr (0, [.ref h1, .ref h2, .ref h3, .ref h4, .ref h5, .ref h6, .int x_309, .int a1, .int a2, .int x_310])), (h1, .inl (cI, 2520, .inl f_306)), (h2, .inl (cI, 2520, .inl f_307)), (h4, .inl (cI, 4096, .inl f_308)), (h5, .inl (cI, 81, .inl g4)), (h7, .inr (7, [.ref h8, .ref h9, .ref h10, .ref h11, .ref h12, .ref h13, .int a4, .int a5, .int a6, .int a7, .int a8, .int a9, .int a10, .int a11])), (h8, .inl (cI, 9, .inl g6)), (h9, .inl (cI, 9, .inl g7))]) [0, 1, 2, 3, 4, 5, 6, 7] rfl
      have hD9 := hD.sub (ws' := [(h0, .inr (0, [.ref h1, .ref h2, .ref h3, .ref h4, .ref h5, .ref h6, .int x_309, .int a1, .int a2, .int x_310])), (h1, .inl (cI, 2520, .inl f_306)), (h2, .inl (cI, 2520, .inl f_307)), (h4, .inl (cI, 4096, .inl f_308)), (h5, .inl (cI, 81, .inl g4)), (h7, .inr (7, [.ref h8, .ref h9, .ref h10, .ref h11, .ref h12, .ref h13, .int a4, .int a5, .int a6, .int a7, .int a8, .int a9, .int a10, .int a11])), (h8, .inl (cI, 9, .inl g6)), (h9, .inl (cI, 9, .inl g7))]) [0, 1, 2, 3, 4, 5, 6, 7] (by decide) rfl
      exact W.vret hx hb hr (fun t ht hW => ⟨⟨(), rfl, trivial, ⟨x_309, x_310, f_306, f_307, f_308, (rg_mono hx_309 (by decide) (by decide)), kl49_310_0, by rw [ht]; exact hP9, hD9⟩⟩, hS.F ht⟩) hS.2.2 dX0_walk_111
    · skip
      have h_344 : rg (0) (8) x_305 := by have ha := hx_305; have hb_ := (rg_k (x := 9) (c := 9) (by decide)); simp only [rg, fa_lt, fa_le, fa_eq, (by decide : (9 : Int32).toInt = 9)] at ha hb_ c_342; simp only [rg]; omega
      refine lv_iload hx hb dX0_walk_56 (lv_at hl 1 rfl) ?_
      refine lv_iload hx hb dX0_walk_58 (lv_at hl 0 rfl) ?_
      refine lv_ishr hx hb dX0_walk_60 ?_
      refine lv_topi (fun x_345 ex_345 => ?_)
      have hx_345 : rg (0) (511) x_345 := by rw [ex_345]; exact rg_mono (rg_shr (b := 511) (rg_mono hx_9 (by decide) (by decide))) (by decide) (by decide)
      have kx_345_0 : rg 1 2147483647 x_345 → rg 1 (511) x_9 := fun hq => rg_shrP hx_9 (ex_345 ▸ hq)
      refine lv_iconst (v := 1) hx hb dX0_walk_61 (by decide) ?_
      refine lv_iand hx hb dX0_walk_62 ?_
      refine lv_topi (fun x_346 ex_346 => ?_)
      have hx_346 : rg (0) (1) x_346 := by rw [ex_346]; exact rg_mono (rg_andr (b := 1) (rg_mono (rg_k (x := 1) (c := 1) (by decide)) (by decide) (by decide))) (by decide) (by decide)
      have kx_346_0 : rg 1 2147483647 x_346 → rg 1 (511) x_345 := fun hq => rg_andP hx_345 (ex_346 ▸ hq)
      refine lv_iconst (v := 1) hx hb dX0_walk_63 (by decide) ?_
      refine lv_icmp_ne (tgt := 105) hx hb dX0_walk_64 (by decide) (fun c_347 => ?_) (fun c_347 => ?_)
      · skip
        have h_348 : rg (0) (0) x_346 := by have ha := hx_346; have hb_ := (rg_k (x := 1) (c := 1) (by decide)); simp only [rg, fa_lt, fa_le, fa_eq, (by decide : (1 : Int32).toInt = 1)] at ha hb_ c_347; simp only [rg]; omega
        obtain ⟨x_349, ex_349⟩ : ∃ y : Int32, y = x_305 + Int32.ofInt (1) := ⟨_, rfl⟩
        have hx_349 : rg (1) (9) x_349 := by rw [ex_349]; exact rg_mono (rg_add h_344 (rg_k (x := Int32.ofInt (1)) (c := 1) (by decide)) (by decide) (by decide)) (by decide) (by decide)
        have qx_349 : x_349.toInt = x_305.toInt + (1) := by rw [ex_349]; exact rg_addE h_344 (rg_k (x := Int32.ofInt (1)) (c := 1) (by decide)) (by decide) (by decide) (by decide)
        refine lv_iinc (v := x_349) (lv' := [(8, .int x_349), (7, .int x_9), (6, .int 6), (0, .ref h0), (1, .ref h7), (2, .int p1), (3, .int p2), (4, .int p3), (5, .int p4)]) hx hb dX0_walk_105 hl (k := 0) rfl (ex_349.symm) (by decide) rfl (fun ls hl => ?_)
        clear ex_349
        refine lv_goto (tgt := 49) hx hb dX0_walk_108 (by decide) ?_
        exact ih_341 (x_349, f_306, f_307, f_308, x_309, x_310) H locs ls ⟨hP.sub (ws' := [(h0, .inr (0, [.ref h1, .ref h2, .ref h3, .ref h4, .ref h5, .ref h6, .int x_309, .int a1, .int a2, .int x_310])), (h1, .inl (cI, 2520, .inl f_306)), (h2, .inl (cI, 2520, .inl f_307)), (h4, .inl (cI, 4096, .inl f_308)), (h5, .inl (cI, 81, .inl g4)), (h7, .inr (7, [.ref h8, .ref h9, .ref h10, .ref h11, .ref h12, .ref h13, .int a4, .int a5, .int a6, .int a7, .int a8, .int a9, .int a10, .int a11])), (h8, .inl (cI, 9, .inl g6)), (h9, .inl (cI, 9, .inl g7))]) [0, 1, 2, 3, 4, 5, 6, 7] rfl, hD.sub (ws' := [(h0, .inr (0, [.ref h1, .ref h2, .ref h3, .ref h4, .ref h5, .ref h6, .int x_309, .int a1, .int a2, .int x_310])), (h1, .inl (cI, 2520, .inl f_306)), (h2, .inl (cI, 2520, .inl f_307)), (h4, .inl (cI, 4096, .inl f_308)), (h5, .inl (cI, 81, .inl g4)), (h7, .inr (7, [.ref h8, .ref h9, .ref h10, .ref h11, .ref h12, .ref h13, .int a4, .int a5, .int a6, .int a7, .int a8, .int a9, .int a10, .int a11])), (h8, .inl (cI, 9, .inl g6)), (h9, .inl (cI, 9, .inl g7))]) [0, 1, 2, 3, 4, 5, 6, 7] (by decide) rfl, hS, lv_sub hl [0, 1, 2, 3, 4, 5, 6, 7, 8] rfl, (rg_mono hx_349 (by decide) (by decide)), (rg_mono hx_309 (by decide) (by decide)), kl49_310_0⟩ (by show ((9) - x_349.toInt).toNat < ((9) - x_305.toInt).toNat; have ha := h_344; simp only [rg] at ha; omega)
      · skip
        have h_350 : rg (1) (1) x_346 := by have ha := hx_346; have hb_ := (rg_k (x := 1) (c := 1) (by decide)); simp only [rg, fa_lt, fa_le, fa_eq, (by decide : (1 : Int32).toInt = 1)] at ha hb_ c_347; simp only [rg]; omega
        have h_351 : rg (1) (511) x_345 := rg_meet hx_345 (kx_346_0 (rg_mono h_350 (by decide) (by decide))) (by decide) (by decide)
        have h_352 : rg (1) (511) x_9 := rg_meet hx_9 (kx_345_0 (rg_mono h_351 (by decide) (by decide))) (by decide) (by decide)
        have h_353 : rg (1) (511) x_7 := rg_meet hx_7 (kx_9_0 (rg_mono h_352 (by decide) (by decide))) (by decide) (by decide)
        have h_354 : rg (1) (511) x_5 := rg_meet hx_5 (kx_7_0 (rg_mono h_353 (by decide) (by decide))) (by decide) (by decide)
        have h_355 : rg (1) (511) x_6 := rg_meet hx_6 (kx_7_1 (rg_mono h_353 (by decide) (by decide))) (by decide) (by decide)
        refine lv_aload_n hx hb dX0_walk_67 rfl (lv_at hl 3 rfl) ?_
        refine lv_aload_n hx hb dX0_walk_68 rfl (lv_at hl 4 rfl) ?_
        refine lv_iload_n hx hb dX0_walk_69 rfl (lv_at hl 5 rfl) ?_
        refine lv_iconst (v := 1) hx hb dX0_walk_70 (by decide) ?_
        refine lv_iload hx hb dX0_walk_71 (lv_at hl 0 rfl) ?_
        refine lv_ishl hx hb dX0_walk_73 ?_
        refine lv_topi (fun x_356 ex_356 => ?_)
        have hx_356 : rg (1) (256) x_356 := by rw [ex_356]; exact rg_mono (rg_shl1 8 (rg_mono h_344 (by decide) (by decide)) (by decide)) (by decide) (by decide)
        refine lv_ior hx hb dX0_walk_74 ?_
        refine lv_topi (fun x_357 ex_357 => ?_)
        have hx_357 : rg (0) (511) x_357 := by rw [ex_357]; exact rg_mono (rg_or 9 (rg_mono hp1 (by decide) (by decide)) (rg_mono hx_356 (by decide) (by decide)) (by decide)) (by decide) (by decide)
        refine lv_iload hx hb dX0_walk_75 (lv_at hl 0 rfl) ?_
        refine lv_iload hx hb dX0_walk_77 (lv_at hl 7 rfl) ?_
        refine lv_aload_n hx hb dX0_walk_79 rfl (lv_at hl 3 rfl) ?_
        refine va_get (D := (dC, dI)) (ci := 0) (v := .ref h5) (C := RX0) (T := TX0) (N := 10) hx hb hts hinX0 hown hK hP 0 rfl rfl 4 (by decide) (hts (.fieldLink RX0 24 "MayRings$Families" "bits" "[I") (List.mem_of_getElem? (i := 7) rfl)) (fun _ h9 => h9) rfl dX0_walk_80 ?_
        refine lv_iload_n hx hb dX0_walk_83 rfl (lv_at hl 6 rfl) ?_
        refine lv_bipush (v := 9) hx hb dX0_walk_84 (by decide) ?_
        refine lv_imul hx hb dX0_walk_86 ?_
        refine lv_topi (fun x_358 ex_358 => ?_)
        have hx_358 : rg (0) (72) x_358 := by rw [ex_358]; exact rg_mono (rg_mul hp2 (rg_k (x := 9) (c := 9) (by decide)) (by decide) (by decide) (by decide)) (by decide) (by decide)
        refine lv_iload hx hb dX0_walk_87 (lv_at hl 0 rfl) ?_
        refine lv_iadd hx hb dX0_walk_89 ?_
        refine lv_topi (fun x_359 ex_359 => ?_)
        have hx_359 : rg (0) (80) x_359 := by rw [ex_359]; exact rg_mono (rg_add hx_358 h_344 (by decide) (by decide)) (by decide) (by decide)
        have qx_359 : x_359.toInt = x_358.toInt + x_305.toInt := by rw [ex_359]; exact rg_addQ hx_358 h_344 (by decide) (by decide)
        refine va_iald hx hb hK hP 4 1 rfl rfl (rg_in (n := 81) (rg_mono hx_359 (by decide) (by decide))) dX0_walk_90 ?_
        refine lv_topi (fun x_360 ex_360 => ?_)
        refine lv_ior hx hb dX0_walk_91 ?_
        refine lv_topi (fun x_361 ex_361 => ?_)
        refine lv_iload hx hb dX0_walk_92 (lv_at hl 8 rfl) ?_
        refine lv_iload hx hb dX0_walk_94 (lv_at hl 0 rfl) ?_
        refine lv_iconst (v := 4) hx hb dX0_walk_96 (by decide) ?_
        refine lv_iload hx hb dX0_walk_97 (lv_at hl 2 rfl) ?_
        refine lv_imul hx hb dX0_walk_99 ?_
        refine tp_v (.int 24) (congrArg Value.int (by decide)) ?_
        refine lv_ishl hx hb dX0_walk_100 ?_
        refine lv_topi (fun x_362 ex_362 => ?_)
        refine lv_ior hx hb dX0_walk_101 ?_
        refine lv_topi (fun x_363 ex_363 => ?_)
        have hPc := hP.sub (ws' := [(h0, .inr (0, [.ref h1, .ref h2, .ref h3, .ref h4, .ref h5, .ref h6, .int x_309, .int a1, .int a2, .int x_310])), (h1, .inl (cI, 2520, .inl f_306)), (h2, .inl (cI, 2520, .inl f_307)), (h4, .inl (cI, 4096, .inl f_308)), (h5, .inl (cI, 81, .inl g4)), (h7, .inr (7, [.ref h8, .ref h9, .ref h10, .ref h11, .ref h12, .ref h13, .int a4, .int a5, .int a6, .int a7, .int a8, .int a9, .int a10, .int a11])), (h9, .inl (cI, 9, .inl g7))]) [0, 1, 2, 3, 4, 5, 7] rfl
        have hDc := hD.sub (ws' := [(h0, .inr (0, [.ref h1, .ref h2, .ref h3, .ref h4, .ref h5, .ref h6, .int x_309, .int a1, .int a2, .int x_310])), (h1, .inl (cI, 2520, .inl f_306)), (h2, .inl (cI, 2520, .inl f_307)), (h4, .inl (cI, 4096, .inl f_308)), (h5, .inl (cI, 81, .inl g4)), (h7, .inr (7, [.ref h8, .ref h9, .ref h10, .ref h11, .ref h12, .ref h13, .int a4, .int a5, .int a6, .int a7, .int a8, .int a9, .int a10, .int a11])), (h9, .inl (cI, 9, .inl g7))]) [0, 1, 2, 3, 4, 5, 7] (by decide) rfl
        have hFc := va_free (wc := [(h0, .inr (0, [.ref h1, .ref h2, .ref h3, .ref h4, .ref h5, .ref h6, .int x_309, .int a1, .int a2, .int x_310])), (h1, .inl (cI, 2520, .inl f_306)), (h2, .inl (cI, 2520, .inl f_307)), (h4, .inl (cI, 4096, .inl f_308)), (h5, .inl (cI, 81, .inl g4)), (h7, .inr (7, [.ref h8, .ref h9, .ref h10, .ref h11, .ref h12, .ref h13, .int a4, .int a5, .int a6, .int a7, .int a8, .int a9, .int a10, .int a11])), (h9, .inl (cI, 9, .inl g7))]) hD hS hA [0, 1, 2, 3, 4, 5, 7] rfl
        refine va_callv (va_runV (As := [.ref h7, .int x_357, .int x_305, .int x_361, .int x_363]) (rest := []) ⟨hx, hb, hml, hown, hts⟩ (c_s_X0_walk_k7 l dC dI cB cI cJ cZ cP h0 h1 f_306 h2 f_307 h3 h4 f_308 h5 g4 h6 x_309 (rg_mono hx_309 (by decide) (by decide)) a1 a2 (rg_mono h_4 (by decide) (by decide)) x_310 h7 h8 h9 g7 hg7 h10 h11 h12 h13 a4 a5 a6 (rg_mono ha6 (by decide) (by decide)) a7 a8 a9 a10 a11 x_357 (rg_mono hx_357 (by decide) (by decide)) x_305 (rg_mono h_344 (by decide) (by decide)) x_361 x_363 kl49_310_0 (show bcE x_357 = 7 from (by rw [ex_357, ex_356]; exact bc_step (rg_mono hp1 (by decide) (by decide)) (rg_mono h_344 (by decide) (by decide)) (ex_9.trans (by rw [ex_8])) (by rw [← ex_345, ← ex_346]; exact c_347) kr1 (by decide))) (show nbk 7 x_363 from (by rw [ex_363, ex_362]; exact nbk_step 6 kr2 (rg_mono h_344 (by decide) (by decide)) (by decide) (by decide))) H.size) (cwV 5 hts (gd_V (List.mem_of_getElem? (i := 8) rfl) (List.mem_of_getElem? (i := 9) rfl) (List.mem_of_getElem? (i := 10) rfl) (List.mem_of_getElem? (i := 11) rfl) (gd_mono k_s_X0_walk_k7 (fun _ h => List.mem_cons_of_mem _ (List.mem_append_right _ (List.mem_append_right _ (List.mem_append_right _ (List.mem_append_right _ (List.mem_append_left _ h)))))))) rfl rfl rfl (by decide +kernel) ⟨Nat.le_of_ble_eq_true rfl, Nat.le_of_ble_eq_true rfl⟩) ⟨fun a U g mk q => by obtain ⟨q0, q1, qP, qK, qD⟩ := q; exact ⟨q0, q1, qP, va_K.moved (u := U) (U := U.calling g mk a) (Vm.Alike.refl U.vm) qK, qD⟩, va_recv hK hPc (ci := 0) (q0 := 0) rfl rfl, fun U hU hW => ⟨rfl, by rw [hU], by rw [hU]; exact hPc, va_K.moved hW.alike hK, hDc.weaken (fun _ _ _ _ => trivial)⟩⟩ rfl rfl hl.1 rfl (lv_room (Nat.le_of_ble_eq_true rfl)) dX0_walk_102 ⟨Nat.le_of_ble_eq_true rfl, Nat.le_of_ble_eq_true rfl⟩) hS (fun q _ h => hFc q h) hFc (fun u t H1 locs ht hvm hw hB hz1 hk1 hS => ?_)
        obtain ⟨x_365, x_366, f_367, f_368, f_369, hx_365, k_370, hP1, hD1⟩ := hB
        rw [ht] at hP1
        obtain ⟨hP, hD⟩ := va_join (wr := [(h8, .inl (cI, 9, .inl g6))]) (w1 := [(h0, .inr (0, [.ref h1, .ref h2, .ref h3, .ref h4, .ref h5, .ref h6, .int x_365, .int a1, .int a2, .int x_366])), (h1, .inl (cI, 2520, .inl f_367)), (h2, .inl (cI, 2520, .inl f_368)), (h4, .inl (cI, 4096, .inl f_369)), (h5, .inl (cI, 81, .inl g4)), (h7, .inr (7, [.ref h8, .ref h9, .ref h10, .ref h11, .ref h12, .ref h13, .int a4, .int a5, .int a6, .int a7, .int a8, .int a9, .int a10, .int a11])), (h9, .inl (cI, 9, .inl g7))]) hP hD [0, 1, 2, 3, 4, 5, 7] [6] rfl rfl (by decide) (by decide) hk1 hFc hP1 hD1
        generalize H1 = H at hP hS ⊢
        replace hP : va_P (dC, dI) vwCl [(h8, .inl (cI, 9, .inl g6)), (h0, .inr (0, [.ref h1, .ref h2, .ref h3, .ref h4, .ref h5, .ref h6, .int x_365, .int a1, .int a2, .int x_366])), (h1, .inl (cI, 2520, .inl f_367)), (h2, .inl (cI, 2520, .inl f_368)), (h4, .inl (cI, 4096, .inl f_369)), (h5, .inl (cI, 81, .inl g4)), (h7, .inr (7, [.ref h8, .ref h9, .ref h10, .ref h11, .ref h12, .ref h13, .int a4, .int a5, .int a6, .int a7, .int a8, .int a9, .int a10, .int a11])), (h9, .inl (cI, 9, .inl g7))] H := hP
        replace hD : va_D A [(h8, .inl (cI, 9, .inl g6)), (h0, .inr (0, [.ref h1, .ref h2, .ref h3, .ref h4, .ref h5, .ref h6, .int x_365, .int a1, .int a2, .int x_366])), (h1, .inl (cI, 2520, .inl f_367)), (h2, .inl (cI, 2520, .inl f_368)), (h4, .inl (cI, 4096, .inl f_369)), (h5, .inl (cI, 81, .inl g4)), (h7, .inr (7, [.ref h8, .ref h9, .ref h10, .ref h11, .ref h12, .ref h13, .int a4, .int a5, .int a6, .int a7, .int a8, .int a9, .int a10, .int a11])), (h9, .inl (cI, 9, .inl g7))] := hD
        obtain ⟨x_371, ex_371⟩ : ∃ y : Int32, y = x_305 + Int32.ofInt (1) := ⟨_, rfl⟩
        have hx_371 : rg (1) (9) x_371 := by rw [ex_371]; exact rg_mono (rg_add h_344 (rg_k (x := Int32.ofInt (1)) (c := 1) (by decide)) (by decide) (by decide)) (by decide) (by decide)
        have qx_371 : x_371.toInt = x_305.toInt + (1) := by rw [ex_371]; exact rg_addE h_344 (rg_k (x := Int32.ofInt (1)) (c := 1) (by decide)) (by decide) (by decide) (by decide)
        refine lv_iinc (v := x_371) (lv' := [(8, .int x_371), (7, .int x_9), (6, .int 6), (0, .ref h0), (1, .ref h7), (2, .int p1), (3, .int p2), (4, .int p3), (5, .int p4)]) hx hb dX0_walk_105 hl (k := 0) rfl (ex_371.symm) (by decide) rfl (fun ls hl => ?_)
        clear ex_371
        refine lv_goto (tgt := 49) hx hb dX0_walk_108 (by decide) ?_
        exact ih_341 (x_371, f_367, f_368, f_369, x_365, x_366) H locs ls ⟨hP.sub (ws' := [(h0, .inr (0, [.ref h1, .ref h2, .ref h3, .ref h4, .ref h5, .ref h6, .int x_365, .int a1, .int a2, .int x_366])), (h1, .inl (cI, 2520, .inl f_367)), (h2, .inl (cI, 2520, .inl f_368)), (h4, .inl (cI, 4096, .inl f_369)), (h5, .inl (cI, 81, .inl g4)), (h7, .inr (7, [.ref h8, .ref h9, .ref h10, .ref h11, .ref h12, .ref h13, .int a4, .int a5, .int a6, .int a7, .int a8, .int a9, .int a10, .int a11])), (h8, .inl (cI, 9, .inl g6)), (h9, .inl (cI, 9, .inl g7))]) [1, 2, 3, 4, 5, 6, 0, 7] rfl, hD.sub (ws' := [(h0, .inr (0, [.ref h1, .ref h2, .ref h3, .ref h4, .ref h5, .ref h6, .int x_365, .int a1, .int a2, .int x_366])), (h1, .inl (cI, 2520, .inl f_367)), (h2, .inl (cI, 2520, .inl f_368)), (h4, .inl (cI, 4096, .inl f_369)), (h5, .inl (cI, 81, .inl g4)), (h7, .inr (7, [.ref h8, .ref h9, .ref h10, .ref h11, .ref h12, .ref h13, .int a4, .int a5, .int a6, .int a7, .int a8, .int a9, .int a10, .int a11])), (h8, .inl (cI, 9, .inl g6)), (h9, .inl (cI, 9, .inl g7))]) [1, 2, 3, 4, 5, 6, 0, 7] (by decide) rfl, hS, lv_sub hl [0, 1, 2, 3, 4, 5, 6, 7, 8] rfl, (rg_mono hx_371 (by decide) (by decide)), (rg_mono hx_365 (by decide) (by decide)), k_370⟩ (by show ((9) - x_371.toInt).toNat < ((9) - x_305.toInt).toNat; have ha := h_344; simp only [rg] at ha; omega)
  · skip
    have h_372 : rg (1) (6) a2 := by have ha := (rg_k (x := 6) (c := 6) (by decide)); have hb_ := ha2; simp only [rg, fa_lt, fa_le, fa_eq, (by decide : (6 : Int32).toInt = 6)] at ha hb_ c_3; simp only [rg]; omega
    refine lv_aload_n hx hb dX0_walk_15 rfl (lv_at hl 1 rfl) ?_
    refine lv_aload_n hx hb dX0_walk_16 rfl (lv_at hl 2 rfl) ?_
    refine lv_iload_n hx hb dX0_walk_17 rfl (lv_at hl 4 rfl) ?_
    refine lv_iload hx hb dX0_walk_18 (lv_at hl 5 rfl) ?_
    refine lv_iload hx hb dX0_walk_20 (lv_at hl 6 rfl) ?_
    have hPc := hP.sub (ws' := [(h0, .inr (0, [.ref h1, .ref h2, .ref h3, .ref h4, .ref h5, .ref h6, .int a0, .int a1, .int a2, .int a3])), (h1, .inl (cI, 2520, .inl g0)), (h2, .inl (cI, 2520, .inl g1)), (h4, .inl (cI, 4096, .inl g3)), (h5, .inl (cI, 81, .inl g4)), (h7, .inr (7, [.ref h8, .ref h9, .ref h10, .ref h11, .ref h12, .ref h13, .int a4, .int a5, .int a6, .int a7, .int a8, .int a9, .int a10, .int a11])), (h9, .inl (cI, 9, .inl g7))]) [0, 1, 2, 3, 4, 5, 7] rfl
    have hDc := hD.sub (ws' := [(h0, .inr (0, [.ref h1, .ref h2, .ref h3, .ref h4, .ref h5, .ref h6, .int a0, .int a1, .int a2, .int a3])), (h1, .inl (cI, 2520, .inl g0)), (h2, .inl (cI, 2520, .inl g1)), (h4, .inl (cI, 4096, .inl g3)), (h5, .inl (cI, 81, .inl g4)), (h7, .inr (7, [.ref h8, .ref h9, .ref h10, .ref h11, .ref h12, .ref h13, .int a4, .int a5, .int a6, .int a7, .int a8, .int a9, .int a10, .int a11])), (h9, .inl (cI, 9, .inl g7))]) [0, 1, 2, 3, 4, 5, 7] (by decide) rfl
    have hFc := va_free (wc := [(h0, .inr (0, [.ref h1, .ref h2, .ref h3, .ref h4, .ref h5, .ref h6, .int a0, .int a1, .int a2, .int a3])), (h1, .inl (cI, 2520, .inl g0)), (h2, .inl (cI, 2520, .inl g1)), (h4, .inl (cI, 4096, .inl g3)), (h5, .inl (cI, 81, .inl g4)), (h7, .inr (7, [.ref h8, .ref h9, .ref h10, .ref h11, .ref h12, .ref h13, .int a4, .int a5, .int a6, .int a7, .int a8, .int a9, .int a10, .int a11])), (h9, .inl (cI, 9, .inl g7))]) hD hS hA [0, 1, 2, 3, 4, 5, 7] rfl
    refine va_callv (va_runV (As := [.ref h7, .int p2, .int p3, .int p4]) (rest := []) ⟨hx, hb, hml, hown, hts⟩ (c_s_X0_close l dC dI cB cI cJ cZ cP h0 h1 g0 h2 g1 h3 h4 g3 h5 g4 h6 a0 (rg_mono ha0 (by decide) (by decide)) a1 a2 a3 h7 h8 h9 g7 hg7 h10 h11 h12 h13 a4 a5 a6 (rg_mono ha6 (by decide) (by decide)) a7 a8 a9 a10 a11 p2 (rg_mono hp2 (by decide) (by decide)) p3 p4 kr0 (show nb p4 from nb_of kr2) H.size) (cwV 4 hts (gd_V (List.mem_of_getElem? (i := 12) rfl) (List.mem_of_getElem? (i := 13) rfl) (List.mem_of_getElem? (i := 14) rfl) (List.mem_of_getElem? (i := 11) rfl) (gd_mono k_s_X0_close (fun _ h => List.mem_cons_of_mem _ (List.mem_append_right _ (List.mem_append_right _ (List.mem_append_right _ (List.mem_append_right _ (List.mem_append_right _ (List.mem_append_left _ h))))))))) rfl rfl rfl (by decide +kernel) ⟨Nat.le_of_ble_eq_true rfl, Nat.le_of_ble_eq_true rfl⟩) ⟨fun a U g mk q => by obtain ⟨q0, q1, qP, qK, qD⟩ := q; exact ⟨q0, q1, qP, va_K.moved (u := U) (U := U.calling g mk a) (Vm.Alike.refl U.vm) qK, qD⟩, va_recv hK hPc (ci := 0) (q0 := 0) rfl rfl, fun U hU hW => ⟨rfl, by rw [hU], by rw [hU]; exact hPc, va_K.moved hW.alike hK, hDc.weaken (fun _ _ _ _ => trivial)⟩⟩ rfl rfl hl.1 rfl (lv_room (Nat.le_of_ble_eq_true rfl)) dX0_walk_22 ⟨Nat.le_of_ble_eq_true rfl, Nat.le_of_ble_eq_true rfl⟩) hS (fun q _ h => hFc q h) hFc (fun u t H1 locs ht hvm hw hB hz1 hk1 hS => ?_)
    obtain ⟨x_374, x_375, f_376, f_377, f_378, hx_374, k_379, hP1, hD1⟩ := hB
    rw [ht] at hP1
    obtain ⟨hP, hD⟩ := va_join (wr := [(h8, .inl (cI, 9, .inl g6))]) (w1 := [(h0, .inr (0, [.ref h1, .ref h2, .ref h3, .ref h4, .ref h5, .ref h6, .int x_374, .int a1, .int a2, .int x_375])), (h1, .inl (cI, 2520, .inl f_376)), (h2, .inl (cI, 2520, .inl f_377)), (h4, .inl (cI, 4096, .inl f_378)), (h5, .inl (cI, 81, .inl g4)), (h7, .inr (7, [.ref h8, .ref h9, .ref h10, .ref h11, .ref h12, .ref h13, .int a4, .int a5, .int a6, .int a7, .int a8, .int a9, .int a10, .int a11])), (h9, .inl (cI, 9, .inl g7))]) hP hD [0, 1, 2, 3, 4, 5, 7] [6] rfl rfl (by decide) (by decide) hk1 hFc hP1 hD1
    generalize H1 = H at hP hS ⊢
    replace hP : va_P (dC, dI) vwCl [(h8, .inl (cI, 9, .inl g6)), (h0, .inr (0, [.ref h1, .ref h2, .ref h3, .ref h4, .ref h5, .ref h6, .int x_374, .int a1, .int a2, .int x_375])), (h1, .inl (cI, 2520, .inl f_376)), (h2, .inl (cI, 2520, .inl f_377)), (h4, .inl (cI, 4096, .inl f_378)), (h5, .inl (cI, 81, .inl g4)), (h7, .inr (7, [.ref h8, .ref h9, .ref h10, .ref h11, .ref h12, .ref h13, .int a4, .int a5, .int a6, .int a7, .int a8, .int a9, .int a10, .int a11])), (h9, .inl (cI, 9, .inl g7))] H := hP
    replace hD : va_D A [(h8, .inl (cI, 9, .inl g6)), (h0, .inr (0, [.ref h1, .ref h2, .ref h3, .ref h4, .ref h5, .ref h6, .int x_374, .int a1, .int a2, .int x_375])), (h1, .inl (cI, 2520, .inl f_376)), (h2, .inl (cI, 2520, .inl f_377)), (h4, .inl (cI, 4096, .inl f_378)), (h5, .inl (cI, 81, .inl g4)), (h7, .inr (7, [.ref h8, .ref h9, .ref h10, .ref h11, .ref h12, .ref h13, .int a4, .int a5, .int a6, .int a7, .int a8, .int a9, .int a10, .int a11])), (h9, .inl (cI, 9, .inl g7))] := hD
    have hP9 := hP.sub (ws' := [(h0, .inr (0, [.ref h1, .ref h2, .ref h3, .ref h4, .ref h5, .ref h6, .int x_374, .int a1, .int a2, .int x_375])), (h1, .inl (cI, 2520, .inl f_376)), (h2, .inl (cI, 2520, .inl f_377)), (h4, .inl (cI, 4096, .inl f_378)), (h5, .inl (cI, 81, .inl g4)), (h7, .inr (7, [.ref h8, .ref h9, .ref h10, .ref h11, .ref h12, .ref h13, .int a4, .int a5, .int a6, .int a7, .int a8, .int a9, .int a10, .int a11])), (h8, .inl (cI, 9, .inl g6)), (h9, .inl (cI, 9, .inl g7))]) [1, 2, 3, 4, 5, 6, 0, 7] rfl
    have hD9 := hD.sub (ws' := [(h0, .inr (0, [.ref h1, .ref h2, .ref h3, .ref h4, .ref h5, .ref h6, .int x_374, .int a1, .int a2, .int x_375])), (h1, .inl (cI, 2520, .inl f_376)), (h2, .inl (cI, 2520, .inl f_377)), (h4, .inl (cI, 4096, .inl f_378)), (h5, .inl (cI, 81, .inl g4)), (h7, .inr (7, [.ref h8, .ref h9, .ref h10, .ref h11, .ref h12, .ref h13, .int a4, .int a5, .int a6, .int a7, .int a8, .int a9, .int a10, .int a11])), (h8, .inl (cI, 9, .inl g6)), (h9, .inl (cI, 9, .inl g7))]) [1, 2, 3, 4, 5, 6, 0, 7] (by decide) rfl
    exact W.vret hx hb hr (fun t ht hW => ⟨⟨(), rfl, trivial, ⟨x_374, x_375, f_376, f_377, f_378, (rg_mono hx_374 (by decide) (by decide)), k_379, by rw [ht]; exact hP9, hD9⟩⟩, hS.F ht⟩) hS.2.2 dX0_walk_25
def v_s_X0_walk_k5 : List Cond := Cond.code yX0_walk cX0_walk 9 none :: ([Cond.methodLink RX0 81 yJ6_bitCount_0f7a4, Cond.static yJ6_bitCount_0f7a4, Cond.initialized RJ6, Cond.fieldLink RX0 37 "MayRings$Families" "size" "I", Cond.fieldLink RX0 67 "MayRings$Ways" "ground" "[I", Cond.fieldLink RX0 78 "MayRings$Ways" "pairs" "[I", Cond.fieldLink RX0 24 "MayRings$Families" "bits" "[I", Cond.methodLink RX0 70 yX0_walk, Cond.instanceMethod yX0_walk, Cond.selects RX0 yX0_walk yX0_walk, Cond.initialized RX0, Cond.methodLink RX0 87 yX0_close, Cond.instanceMethod yX0_close, Cond.selects RX0 yX0_close yX0_close] ++ (wsX00 ++ (wsX70 ++ (v_s_J6_bitCount_0f7a4_b9 ++ (v_s_X0_walk_k6 ++ (v_s_X0_close ++ ([])))))))
theorem k_s_X0_walk_k5 : GoodIn lw_tbl v_s_X0_walk_k5 := gd_c (List.mem_of_getElem? (i := 1051) (by decide +kernel)) rfl (goodIn_app (gd_c (List.mem_of_getElem? (i := 1052) (by decide +kernel)) rfl (gd_c (List.mem_of_getElem? (i := 878) (by decide +kernel)) rfl (gd_c (List.mem_of_getElem? (i := 147) (by decide +kernel)) rfl (gd_c (List.mem_of_getElem? (i := 508) (by decide +kernel)) rfl (gd_c (List.mem_of_getElem? (i := 441) (by decide +kernel)) rfl (gd_c (List.mem_of_getElem? (i := 444) (by decide +kernel)) rfl (gd_c (List.mem_of_getElem? (i := 504) (by decide +kernel)) rfl (gd_c (List.mem_of_getElem? (i := 1048) (by decide +kernel)) rfl (gd_c (List.mem_of_getElem? (i := 1050) (by decide +kernel)) rfl (gd_c (List.mem_of_getElem? (i := 56) (by decide +kernel)) rfl (gd_c (List.mem_of_getElem? (i := 143) (by decide +kernel)) rfl (gd_c (List.mem_of_getElem? (i := 1053) (by decide +kernel)) rfl (gd_c (List.mem_of_getElem? (i := 1055) (by decide +kernel)) rfl (gd_c (List.mem_of_getElem? (i := 57) (by decide +kernel)) rfl (gd_nil))))))))))))))) (goodIn_app kfX0 (goodIn_app kfX7 (goodIn_app k_s_J6_bitCount_0f7a4_b9 (goodIn_app k_s_X0_walk_k6 (goodIn_app k_s_X0_close (gd_nil)))))))
set_option maxHeartbeats 2000000 in
set_option maxRecDepth 100000 in
theorem c_s_X0_walk_k5 (l : Launch) (dC : Nat → ClassId) (dI : Nat → Nat → Nat) (cB cI cJ cZ cP : ClassId) (h0 : Nat) (h1 : Nat) (g0 : Nat → Int32) (h2 : Nat) (g1 : Nat → Int32) (h3 : Nat) (h4 : Nat) (g3 : Nat → Int32) (h5 : Nat) (g4 : Nat → Int32) (h6 : Nat) (a0 : Int32) (ha0 : rg (0) (2520) a0) (a1 : Int32) (a2 : Int32) (ha2 : rg (1) (7) a2) (a3 : Int32) (h7 : Nat) (h8 : Nat) (g6 : Nat → Int32) (hg6 : rgA (0) (511) g6) (h9 : Nat) (g7 : Nat → Int32) (hg7 : rgA (0) (511) g7) (h10 : Nat) (h11 : Nat) (h12 : Nat) (h13 : Nat) (a4 : Int32) (a5 : Int32) (a6 : Int32) (ha6 : rg (0) (1) a6) (a7 : Int32) (a8 : Int32) (a9 : Int32) (a10 : Int32) (a11 : Int32) (p1 : Int32) (hp1 : rg (0) (511) p1) (p2 : Int32) (hp2 : rg (0) (8) p2) (p3 : Int32) (p4 : Int32) (kr0 : nbA g1) (kr1 : bcE p1 = 5) (kr2 : nbk 5 p4) (sz : Nat) : Met l yX0_walk v_s_X0_walk_k5 ({ frames := 4, cells := 0, slots := 0, locals := 105 }) (va_Pc [.ref h0, .ref h7, .int p1, .int p2, .int p3, .int p4] (fun U => U.heap.size = sz ∧ va_P (dC, dI) vwCl [(h0, .inr (0, [.ref h1, .ref h2, .ref h3, .ref h4, .ref h5, .ref h6, .int a0, .int a1, .int a2, .int a3])), (h1, .inl (cI, 2520, .inl g0)), (h2, .inl (cI, 2520, .inl g1)), (h4, .inl (cI, 4096, .inl g3)), (h5, .inl (cI, 81, .inl g4)), (h7, .inr (7, [.ref h8, .ref h9, .ref h10, .ref h11, .ref h12, .ref h13, .int a4, .int a5, .int a6, .int a7, .int a8, .int a9, .int a10, .int a11])), (h8, .inl (cI, 9, .inl g6)), (h9, .inl (cI, 9, .inl g7))] U.heap ∧ va_K (dC, dI) vwCl (ty5 cB cI cJ cZ cP) U ∧ va_D (fun _ => True) [(h0, .inr (0, [.ref h1, .ref h2, .ref h3, .ref h4, .ref h5, .ref h6, .int a0, .int a1, .int a2, .int a3])), (h1, .inl (cI, 2520, .inl g0)), (h2, .inl (cI, 2520, .inl g1)), (h4, .inl (cI, 4096, .inl g3)), (h5, .inl (cI, 81, .inl g4)), (h7, .inr (7, [.ref h8, .ref h9, .ref h10, .ref h11, .ref h12, .ref h13, .int a4, .int a5, .int a6, .int a7, .int a8, .int a9, .int a10, .int a11])), (h8, .inl (cI, 9, .inl g6)), (h9, .inl (cI, 9, .inl g7))])) (va_Qv (fun _ : Unit => True) (fun _ t => ∃ (z0 : Int32) (z1 : Int32) (z2 : Nat → Int32) (z3 : Nat → Int32) (z4 : Nat → Int32), rg (0) (2520) z0 ∧ (nbA z3) ∧ va_P (dC, dI) vwCl [(h0, .inr (0, [.ref h1, .ref h2, .ref h3, .ref h4, .ref h5, .ref h6, .int z0, .int a1, .int a2, .int z1])), (h1, .inl (cI, 2520, .inl z2)), (h2, .inl (cI, 2520, .inl z3)), (h4, .inl (cI, 4096, .inl z4)), (h5, .inl (cI, 81, .inl g4)), (h7, .inr (7, [.ref h8, .ref h9, .ref h10, .ref h11, .ref h12, .ref h13, .int a4, .int a5, .int a6, .int a7, .int a8, .int a9, .int a10, .int a11])), (h8, .inl (cI, 9, .inl g6)), (h9, .inl (cI, 9, .inl g7))] t.heap ∧ va_D (va_A [(h0, .inr (0, [.ref h1, .ref h2, .ref h3, .ref h4, .ref h5, .ref h6, .int a0, .int a1, .int a2, .int a3])), (h1, .inl (cI, 2520, .inl g0)), (h2, .inl (cI, 2520, .inl g1)), (h4, .inl (cI, 4096, .inl g3)), (h5, .inl (cI, 81, .inl g4)), (h7, .inr (7, [.ref h8, .ref h9, .ref h10, .ref h11, .ref h12, .ref h13, .int a4, .int a5, .int a6, .int a7, .int a8, .int a9, .int a10, .int a11])), (h8, .inl (cI, 9, .inl g6)), (h9, .inl (cI, 9, .inl g7))] sz) [(h0, .inr (0, [.ref h1, .ref h2, .ref h3, .ref h4, .ref h5, .ref h6, .int z0, .int a1, .int a2, .int z1])), (h1, .inl (cI, 2520, .inl z2)), (h2, .inl (cI, 2520, .inl z3)), (h4, .inl (cI, 4096, .inl z4)), (h5, .inl (cI, 81, .inl g4)), (h7, .inr (7, [.ref h8, .ref h9, .ref h10, .ref h11, .ref h12, .ref h13, .int a4, .int a5, .int a6, .int a7, .int a8, .int a9, .int a10, .int a11])), (h8, .inl (cI, 9, .inl g6)), (h9, .inl (cI, 9, .inl g7))]) (va_A [(h0, .inr (0, [.ref h1, .ref h2, .ref h3, .ref h4, .ref h5, .ref h6, .int a0, .int a1, .int a2, .int a3])), (h1, .inl (cI, 2520, .inl g0)), (h2, .inl (cI, 2520, .inl g1)), (h4, .inl (cI, 4096, .inl g3)), (h5, .inl (cI, 81, .inl g4)), (h7, .inr (7, [.ref h8, .ref h9, .ref h10, .ref h11, .ref h12, .ref h13, .int a4, .int a5, .int a6, .int a7, .int a8, .int a9, .int a10, .int a11])), (h8, .inl (cI, 9, .inl g6)), (h9, .inl (cI, 9, .inl g7))] sz)) 0 0 (va_A [(h0, .inr (0, [.ref h1, .ref h2, .ref h3, .ref h4, .ref h5, .ref h6, .int a0, .int a1, .int a2, .int a3])), (h1, .inl (cI, 2520, .inl g0)), (h2, .inl (cI, 2520, .inl g1)), (h4, .inl (cI, 4096, .inl g3)), (h5, .inl (cI, 81, .inl g4)), (h7, .inr (7, [.ref h8, .ref h9, .ref h10, .ref h11, .ref h12, .ref h13, .int a4, .int a5, .int a6, .int a7, .int a8, .int a9, .int a10, .int a11])), (h8, .inl (cI, 9, .inl g6)), (h9, .inl (cI, 9, .inl g7))] sz) := by
  refine Met.ofW (cc := cX0_walk) (maxL := 9) (ret := none) (by decide) rfl ?_
  intro p e s m args below meth c s₁ B hml hv
  obtain ⟨rfl, hsz, hP, hK, hD0⟩ := hv
  have hx := B.exec
  have hb := B.bytes
  have hr := B.returns
  have hts := atoms_spec (ws := v_s_X0_walk_k5) B.pre
  have hown : s.vm.findClass RX0 = some m.cls := findClass_of_methodNamed B.named
  have hlocks := B.notSynchronized
  have hinX0 : ∀ w ∈ wsX00, w ∈ v_s_X0_walk_k5 := fun _ h => List.mem_cons_of_mem _ (List.mem_append_right _ (List.mem_append_left _ h))
  have hinX7 : ∀ w ∈ wsX70, w ∈ v_s_X0_walk_k5 := fun _ h => List.mem_cons_of_mem _ (List.mem_append_right _ (List.mem_append_right _ (List.mem_append_left _ h)))
  subst hsz
  have hD := hD0.self (sz := s.heap.size)
  generalize hAe : va_A [(h0, .inr (0, [.ref h1, .ref h2, .ref h3, .ref h4, .ref h5, .ref h6, .int a0, .int a1, .int a2, .int a3])), (h1, .inl (cI, 2520, .inl g0)), (h2, .inl (cI, 2520, .inl g1)), (h4, .inl (cI, 4096, .inl g3)), (h5, .inl (cI, 81, .inl g4)), (h7, .inr (7, [.ref h8, .ref h9, .ref h10, .ref h11, .ref h12, .ref h13, .int a4, .int a5, .int a6, .int a7, .int a8, .int a9, .int a10, .int a11])), (h8, .inl (cI, 9, .inl g6)), (h9, .inl (cI, 9, .inl g7))] s.heap.size = A at hD ⊢
  have hA : ∀ q : Nat, s.heap.size ≤ q → A q := fun q h => by rw [← hAe]; exact Or.inr h
  have hP : va_P (dC, dI) vwCl [(h0, .inr (0, [.ref h1, .ref h2, .ref h3, .ref h4, .ref h5, .ref h6, .int a0, .int a1, .int a2, .int a3])), (h1, .inl (cI, 2520, .inl g0)), (h2, .inl (cI, 2520, .inl g1)), (h4, .inl (cI, 4096, .inl g3)), (h5, .inl (cI, 81, .inl g4)), (h7, .inr (7, [.ref h8, .ref h9, .ref h10, .ref h11, .ref h12, .ref h13, .int a4, .int a5, .int a6, .int a7, .int a8, .int a9, .int a10, .int a11])), (h8, .inl (cI, 9, .inl g6)), (h9, .inl (cI, 9, .inl g7))] s.heap := hP
  have hl := lv_entry ([.ref h0, .ref h7, .int p1, .int p2, .int p3, .int p4]) (n := 9) (Nat.le_of_ble_eq_true rfl)
  rw [lg_entry_eq]
  generalize (lg_sl ([.ref h0, .ref h7, .int p1, .int p2, .int p3, .int p4]) ++ List.replicate (9 - (lg_sl ([.ref h0, .ref h7, .int p1, .int p2, .int p3, .int p4])).length) Slot.unset).toArray = ls at hl ⊢
  have hl : lv_has ls 9 [(0, .ref h0), (1, .ref h7), (2, .int p1), (3, .int p2), (4, .int p3), (5, .int p4)] := hl
  refine W_gen (A := A) hP (fun H locs hP hS => ?_)
  refine lv_iload_n hx hb dX0_walk_0 rfl (lv_at hl 2 rfl) ?_
  have hPc := hP.sub (ws' := []) [] rfl
  have hDc := hD.sub (ws' := []) [] (by decide) rfl
  have hFc := va_free (wc := []) hD hS hA [] rfl
  refine va_calli (va_runS (As := [.int p1]) (rest := []) ⟨hx, hb, hml, hown, hts⟩ (c_s_J6_bitCount_0f7a4_b9 l dC dI cB cI cJ cZ cP p1 (rg_mono hp1 (by decide) (by decide)) H.size) (va_cwS 1 hts (gd_S (List.mem_of_getElem? (i := 1) rfl) (List.mem_of_getElem? (i := 2) rfl) (List.mem_of_getElem? (i := 3) rfl) (gd_mono k_s_J6_bitCount_0f7a4_b9 (fun _ h => List.mem_cons_of_mem _ (List.mem_append_right _ (List.mem_append_right _ (List.mem_append_right _ (List.mem_append_left _ h))))))) rfl rfl rfl (by decide +kernel) ⟨Nat.le_of_ble_eq_true rfl, Nat.le_of_ble_eq_true rfl⟩) ⟨fun a U g mk q => by obtain ⟨q0, q1, qP, qK, qD⟩ := q; exact ⟨q0, q1, qP, va_K.moved (u := U) (U := U.calling g mk a) (Vm.Alike.refl U.vm) qK, qD⟩, fun U hU hW => ⟨rfl, by rw [hU], by rw [hU]; exact hPc, va_K.moved hW.alike hK, hDc.weaken (fun _ _ _ _ => trivial)⟩⟩ rfl rfl hl.1 rfl (lv_room (Nat.le_of_ble_eq_true rfl)) dX0_walk_1 ⟨Nat.le_of_ble_eq_true rfl, Nat.le_of_ble_eq_true rfl⟩) hS (fun q _ h => hFc q h) hFc (fun r_1 u t H1 locs ht hvm hw hB hz1 hk1 hS => ?_)
  obtain ⟨hu9, hw⟩ := hw
  rw [hu9] at hB
  clear hu9
  obtain ⟨k_2, hP1, hD1⟩ := hB
  rw [ht] at hP1
  obtain ⟨hP, hD⟩ := va_join (wr := [(h0, .inr (0, [.ref h1, .ref h2, .ref h3, .ref h4, .ref h5, .ref h6, .int a0, .int a1, .int a2, .int a3])), (h1, .inl (cI, 2520, .inl g0)), (h2, .inl (cI, 2520, .inl g1)), (h4, .inl (cI, 4096, .inl g3)), (h5, .inl (cI, 81, .inl g4)), (h7, .inr (7, [.ref h8, .ref h9, .ref h10, .ref h11, .ref h12, .ref h13, .int a4, .int a5, .int a6, .int a7, .int a8, .int a9, .int a10, .int a11])), (h8, .inl (cI, 9, .inl g6)), (h9, .inl (cI, 9, .inl g7))]) (w1 := []) hP hD [] [0, 1, 2, 3, 4, 5, 6, 7] rfl rfl (by decide) (by decide) hk1 hFc hP1 hD1
  generalize H1 = H at hP hS ⊢
  replace hP : va_P (dC, dI) vwCl [(h0, .inr (0, [.ref h1, .ref h2, .ref h3, .ref h4, .ref h5, .ref h6, .int a0, .int a1, .int a2, .int a3])), (h1, .inl (cI, 2520, .inl g0)), (h2, .inl (cI, 2520, .inl g1)), (h4, .inl (cI, 4096, .inl g3)), (h5, .inl (cI, 81, .inl g4)), (h7, .inr (7, [.ref h8, .ref h9, .ref h10, .ref h11, .ref h12, .ref h13, .int a4, .int a5, .int a6, .int a7, .int a8, .int a9, .int a10, .int a11])), (h8, .inl (cI, 9, .inl g6)), (h9, .inl (cI, 9, .inl g7))] H := hP
  replace hD : va_D A [(h0, .inr (0, [.ref h1, .ref h2, .ref h3, .ref h4, .ref h5, .ref h6, .int a0, .int a1, .int a2, .int a3])), (h1, .inl (cI, 2520, .inl g0)), (h2, .inl (cI, 2520, .inl g1)), (h4, .inl (cI, 4096, .inl g3)), (h5, .inl (cI, 81, .inl g4)), (h7, .inr (7, [.ref h8, .ref h9, .ref h10, .ref h11, .ref h12, .ref h13, .int a4, .int a5, .int a6, .int a7, .int a8, .int a9, .int a10, .int a11])), (h8, .inl (cI, 9, .inl g6)), (h9, .inl (cI, 9, .inl g7))] := hD
  have hr_1 : rg (0) (9) r_1 := hw.1
  have kr_1_0 : rg (0) (8) r_1 → rg (0) (510) p1 := hw.2
  refine tp_v (.int 5) (congrArg Value.int (k_2.trans kr1)) ?_
  refine lv_istore (lv' := [(6, .int 5), (0, .ref h0), (1, .ref h7), (2, .int p1), (3, .int p2), (4, .int p3), (5, .int p4)]) hx hb dX0_walk_4 hl (by decide) rfl (fun ls hl => ?_)
  refine lv_iload hx hb dX0_walk_6 (lv_at hl 0 rfl) ?_
  refine lv_aload_n hx hb dX0_walk_8 rfl (lv_at hl 1 rfl) ?_
  refine va_get (D := (dC, dI)) (ci := 0) (v := .int a2) (C := RX0) (T := TX0) (N := 10) hx hb hts hinX0 hown hK hP 0 rfl rfl 8 (by decide) (hts (.fieldLink RX0 37 "MayRings$Families" "size" "I") (List.mem_of_getElem? (i := 4) rfl)) (fun _ h9 => h9) rfl dX0_walk_9 ?_
  refine lv_icmp_lt (tgt := 26) hx hb dX0_walk_12 (by decide) (fun c_3 => ?_) (fun c_3 => ?_)
  · skip
    have h_4 : rg (6) (7) a2 := by have ha := (rg_k (x := 5) (c := 5) (by decide)); have hb_ := ha2; simp only [rg, fa_lt, fa_le, fa_eq, (by decide : (5 : Int32).toInt = 5)] at ha hb_ c_3; simp only [rg]; omega
    refine lv_aload_n hx hb dX0_walk_26 rfl (lv_at hl 2 rfl) ?_
    refine va_get (D := (dC, dI)) (ci := 7) (v := .ref h8) (C := RX7) (T := TX7) (N := 14) hx hb hts hinX7 hown hK hP 5 rfl rfl 0 (by decide) (hts (.fieldLink RX0 67 "MayRings$Ways" "ground" "[I") (List.mem_of_getElem? (i := 5) rfl)) (fun _ h9 => h9) rfl dX0_walk_27 ?_
    refine lv_iload hx hb dX0_walk_30 (lv_at hl 0 rfl) ?_
    refine va_iald hx hb hK hP 6 1 rfl rfl (rg_in (n := 9) (rg_mono (rg_k (x := 5) (c := 5) (by decide)) (by decide) (by decide))) dX0_walk_32 ?_
    refine lv_topi (fun x_5 ex_5 => ?_)
    have hx_5 : rg (0) (511) x_5 := by rw [ex_5]; exact rg_mono (hg6 _) (by decide) (by decide)
    refine lv_aload_n hx hb dX0_walk_33 rfl (lv_at hl 2 rfl) ?_
    refine va_get (D := (dC, dI)) (ci := 7) (v := .ref h9) (C := RX7) (T := TX7) (N := 14) hx hb hts hinX7 hown hK hP 5 rfl rfl 1 (by decide) (hts (.fieldLink RX0 78 "MayRings$Ways" "pairs" "[I") (List.mem_of_getElem? (i := 6) rfl)) (fun _ h9 => h9) rfl dX0_walk_34 ?_
    refine lv_iload_n hx hb dX0_walk_37 rfl (lv_at hl 4 rfl) ?_
    refine va_iald hx hb hK hP 7 1 rfl rfl (rg_in (n := 9) (rg_mono hp2 (by decide) (by decide))) dX0_walk_38 ?_
    refine lv_topi (fun x_6 ex_6 => ?_)
    have hx_6 : rg (0) (511) x_6 := by rw [ex_6]; exact rg_mono (hg7 _) (by decide) (by decide)
    refine lv_iand hx hb dX0_walk_39 ?_
    refine lv_topi (fun x_7 ex_7 => ?_)
    have hx_7 : rg (0) (511) x_7 := by rw [ex_7]; exact rg_mono (rg_andl (b := 511) (rg_mono hx_5 (by decide) (by decide))) (by decide) (by decide)
    have kx_7_0 : rg 1 2147483647 x_7 → rg 1 (511) x_5 := fun hq => rg_andP hx_5 (ex_7 ▸ hq)
    have kx_7_1 : rg 1 2147483647 x_7 → rg 1 (511) x_6 := fun hq => rg_andP' hx_6 (ex_7 ▸ hq)
    refine lv_iload_n hx hb dX0_walk_40 rfl (lv_at hl 3 rfl) ?_
    refine lv_iconst (v := (-1)) hx hb dX0_walk_41 (by decide) ?_
    refine lv_ixor hx hb dX0_walk_42 ?_
    refine lv_topi (fun x_8 ex_8 => ?_)
    refine lv_iand hx hb dX0_walk_43 ?_
    refine lv_topi (fun x_9 ex_9 => ?_)
    have hx_9 : rg (0) (511) x_9 := by rw [ex_9]; exact rg_mono (rg_andl (b := 511) (rg_mono hx_7 (by decide) (by decide))) (by decide) (by decide)
    have kx_9_0 : rg 1 2147483647 x_9 → rg 1 (511) x_7 := fun hq => rg_andP hx_7 (ex_9 ▸ hq)
    refine lv_istore (lv' := [(7, .int x_9), (6, .int 5), (0, .ref h0), (1, .ref h7), (2, .int p1), (3, .int p2), (4, .int p3), (5, .int p4)]) hx hb dX0_walk_44 hl (by decide) rfl (fun ls hl => ?_)
    refine lv_iconst (v := 0) hx hb dX0_walk_46 (by decide) ?_
    refine lv_istore (lv' := [(8, .int 0), (7, .int x_9), (6, .int 5), (0, .ref h0), (1, .ref h7), (2, .int p1), (3, .int p2), (4, .int p3), (5, .int p4)]) hx hb dX0_walk_47 hl (by decide) rfl (fun ls hl => ?_)
    refine W_loopM (σ := Int32 × (Nat → Int32) × (Nat → Int32) × (Nat → Int32) × Int32 × Int32) (fun u H locs ls => va_P (dC, dI) vwCl [(h0, .inr (0, [.ref h1, .ref h2, .ref h3, .ref h4, .ref h5, .ref h6, .int u.2.2.2.2.1, .int a1, .int a2, .int u.2.2.2.2.2])), (h1, .inl (cI, 2520, .inl u.2.1)), (h2, .inl (cI, 2520, .inl u.2.2.1)), (h4, .inl (cI, 4096, .inl u.2.2.2.1)), (h5, .inl (cI, 81, .inl g4)), (h7, .inr (7, [.ref h8, .ref h9, .ref h10, .ref h11, .ref h12, .ref h13, .int a4, .int a5, .int a6, .int a7, .int a8, .int a9, .int a10, .int a11])), (h8, .inl (cI, 9, .inl g6)), (h9, .inl (cI, 9, .inl g7))] H ∧ va_D A [(h0, .inr (0, [.ref h1, .ref h2, .ref h3, .ref h4, .ref h5, .ref h6, .int u.2.2.2.2.1, .int a1, .int a2, .int u.2.2.2.2.2])), (h1, .inl (cI, 2520, .inl u.2.1)), (h2, .inl (cI, 2520, .inl u.2.2.1)), (h4, .inl (cI, 4096, .inl u.2.2.2.1)), (h5, .inl (cI, 81, .inl g4)), (h7, .inr (7, [.ref h8, .ref h9, .ref h10, .ref h11, .ref h12, .ref h13, .int a4, .int a5, .int a6, .int a7, .int a8, .int a9, .int a10, .int a11])), (h8, .inl (cI, 9, .inl g6)), (h9, .inl (cI, 9, .inl g7))] ∧ va_S A s.heap H locs ∧ lv_has ls 9 [(8, .int u.1), (7, .int x_9), (6, .int 5), (0, .ref h0), (1, .ref h7), (2, .int p1), (3, .int p2), (4, .int p3), (5, .int p4)] ∧ rg (0) (9) u.1 ∧ rg (0) (2520) u.2.2.2.2.1 ∧ (nbA u.2.2.1)) (fun u => ((9) - u.1.toInt).toNat) 49 [] ?_ (0, g0, g1, g3, a0, a3) H locs ls ⟨hP, hD, hS, hl, (rg_mono (rg_k (x := 0) (c := 0) (by decide)) (by decide) (by decide)), (rg_mono ha0 (by decide) (by decide)), kr0⟩
    rintro ⟨x_305, f_306, f_307, f_308, x_309, x_310⟩ H locs ls ⟨hP, hD, hS, hl, hx_305, hx_309, kl49_310_0⟩ ih_341
    replace kl49_310_0 : nbA f_307 := kl49_310_0
    replace hP : va_P (dC, dI) vwCl [(h0, .inr (0, [.ref h1, .ref h2, .ref h3, .ref h4, .ref h5, .ref h6, .int x_309, .int a1, .int a2, .int x_310])), (h1, .inl (cI, 2520, .inl f_306)), (h2, .inl (cI, 2520, .inl f_307)), (h4, .inl (cI, 4096, .inl f_308)), (h5, .inl (cI, 81, .inl g4)), (h7, .inr (7, [.ref h8, .ref h9, .ref h10, .ref h11, .ref h12, .ref h13, .int a4, .int a5, .int a6, .int a7, .int a8, .int a9, .int a10, .int a11])), (h8, .inl (cI, 9, .inl g6)), (h9, .inl (cI, 9, .inl g7))] H := hP
    replace hD : va_D A [(h0, .inr (0, [.ref h1, .ref h2, .ref h3, .ref h4, .ref h5, .ref h6, .int x_309, .int a1, .int a2, .int x_310])), (h1, .inl (cI, 2520, .inl f_306)), (h2, .inl (cI, 2520, .inl f_307)), (h4, .inl (cI, 4096, .inl f_308)), (h5, .inl (cI, 81, .inl g4)), (h7, .inr (7, [.ref h8, .ref h9, .ref h10, .ref h11, .ref h12, .ref h13, .int a4, .int a5, .int a6, .int a7, .int a8, .int a9, .int a10, .int a11])), (h8, .inl (cI, 9, .inl g6)), (h9, .inl (cI, 9, .inl g7))] := hD
    replace hl : lv_has ls 9 [(8, .int x_305), (7, .int x_9), (6, .int 5), (0, .ref h0), (1, .ref h7), (2, .int p1), (3, .int p2), (4, .int p3), (5, .int p4)] := hl
    replace hx_305 : rg (0) (9) x_305 := hx_305
    replace hx_309 : rg (0) (2520) x_309 := hx_309
    refine lv_iload hx hb dX0_walk_49 (lv_at hl 0 rfl) ?_
    refine lv_bipush (v := 9) hx hb dX0_walk_51 (by decide) ?_
    refine lv_icmp_ge (tgt := 111) hx hb dX0_walk_53 (by decide) (fun c_342 => ?_) (fun c_342 => ?_)
    · skip
      have h_343 : rg (9) (9) x_305 := by have ha := hx_305; have hb_ := (rg_k (x := 9) (c := 9) (by decide)); simp only [rg, fa_lt, fa_le, fa_eq, (by decide : (9 : Int32).toInt = 9)] at ha hb_ c_342; simp only [rg]; omega
      have hP9 := hP.sub (ws' := [(h0, .inr (0, [.ref h1, .ref h2, .ref h3, .ref h4, .ref h5, .ref h6, .int x_309, .int a1, .int a2, .int x_310])), (h1, .inl (cI, 2520, .inl f_306)), (h2, .inl (cI, 2520, .inl f_307)), (h4, .inl (cI, 4096, .inl f_308)), (h5, .inl (cI, 81, .inl g4)), (h7, .inr (7, [.ref h8, .ref h9, .ref h10, .ref h11, .ref h12, .ref h13, .int a4, .int a5, .int a6, .int a7, .int a8, .int a9, .int a10, .int a11])), (h8, .inl (cI, 9, .inl g6)), (h9, .inl (cI, 9, .inl g7))]) [0, 1, 2, 3, 4, 5, 6, 7] rfl
      have hD9 := hD.sub (ws' := [(h0, .inr (0, [.ref h1, .ref h2, .ref h3, .ref h4, .ref h5, .ref h6, .int x_309, .int a1, .int a2, .int x_310])), (h1, .inl (cI, 2520, .inl f_306)), (h2, .inl (cI, 2520, .inl f_307)), (h4, .inl (cI, 4096, .inl f_308)), (h5, .inl (cI, 81, .inl g4)), (h7, .inr (7, [.ref h8, .ref h9, .ref h10, .ref h11, .ref h12, .ref h13, .int a4, .int a5, .int a6, .int a7, .int a8, .int a9, .int a10, .int a11])), (h8, .inl (cI, 9, .inl g6)), (h9, .inl (cI, 9, .inl g7))]) [0, 1, 2, 3, 4, 5, 6, 7] (by decide) rfl
      exact W.vret hx hb hr (fun t ht hW => ⟨⟨(), rfl, trivial, ⟨x_309, x_310, f_306, f_307, f_308, (rg_mono hx_309 (by decide) (by decide)), kl49_310_0, by rw [ht]; exact hP9, hD9⟩⟩, hS.F ht⟩) hS.2.2 dX0_walk_111
    · skip
      have h_344 : rg (0) (8) x_305 := by have ha := hx_305; have hb_ := (rg_k (x := 9) (c := 9) (by decide)); simp only [rg, fa_lt, fa_le, fa_eq, (by decide : (9 : Int32).toInt = 9)] at ha hb_ c_342; simp only [rg]; omega
      refine lv_iload hx hb dX0_walk_56 (lv_at hl 1 rfl) ?_
      refine lv_iload hx hb dX0_walk_58 (lv_at hl 0 rfl) ?_
      refine lv_ishr hx hb dX0_walk_60 ?_
      refine lv_topi (fun x_345 ex_345 => ?_)
      have hx_345 : rg (0) (511) x_345 := by rw [ex_345]; exact rg_mono (rg_shr (b := 511) (rg_mono hx_9 (by decide) (by decide))) (by decide) (by decide)
      have kx_345_0 : rg 1 2147483647 x_345 → rg 1 (511) x_9 := fun hq => rg_shrP hx_9 (ex_345 ▸ hq)
      refine lv_iconst (v := 1) hx hb dX0_walk_61 (by decide) ?_
      refine lv_iand hx hb dX0_walk_62 ?_
      refine lv_topi (fun x_346 ex_346 => ?_)
      have hx_346 : rg (0) (1) x_346 := by rw [ex_346]; exact rg_mono (rg_andr (b := 1) (rg_mono (rg_k (x := 1) (c := 1) (by decide)) (by decide) (by decide))) (by decide) (by decide)
      have kx_346_0 : rg 1 2147483647 x_346 → rg 1 (511) x_345 := fun hq => rg_andP hx_345 (ex_346 ▸ hq)
      refine lv_iconst (v := 1) hx hb dX0_walk_63 (by decide) ?_
      refine lv_icmp_ne (tgt := 105) hx hb dX0_walk_64 (by decide) (fun c_347 => ?_) (fun c_347 => ?_)
      · skip
        have h_348 : rg (0) (0) x_346 := by have ha := hx_346; have hb_ := (rg_k (x := 1) (c := 1) (by decide)); simp only [rg, fa_lt, fa_le, fa_eq, (by decide : (1 : Int32).toInt = 1)] at ha hb_ c_347; simp only [rg]; omega
        obtain ⟨x_349, ex_349⟩ : ∃ y : Int32, y = x_305 + Int32.ofInt (1) := ⟨_, rfl⟩
        have hx_349 : rg (1) (9) x_349 := by rw [ex_349]; exact rg_mono (rg_add h_344 (rg_k (x := Int32.ofInt (1)) (c := 1) (by decide)) (by decide) (by decide)) (by decide) (by decide)
        have qx_349 : x_349.toInt = x_305.toInt + (1) := by rw [ex_349]; exact rg_addE h_344 (rg_k (x := Int32.ofInt (1)) (c := 1) (by decide)) (by decide) (by decide) (by decide)
        refine lv_iinc (v := x_349) (lv' := [(8, .int x_349), (7, .int x_9), (6, .int 5), (0, .ref h0), (1, .ref h7), (2, .int p1), (3, .int p2), (4, .int p3), (5, .int p4)]) hx hb dX0_walk_105 hl (k := 0) rfl (ex_349.symm) (by decide) rfl (fun ls hl => ?_)
        clear ex_349
        refine lv_goto (tgt := 49) hx hb dX0_walk_108 (by decide) ?_
        exact ih_341 (x_349, f_306, f_307, f_308, x_309, x_310) H locs ls ⟨hP.sub (ws' := [(h0, .inr (0, [.ref h1, .ref h2, .ref h3, .ref h4, .ref h5, .ref h6, .int x_309, .int a1, .int a2, .int x_310])), (h1, .inl (cI, 2520, .inl f_306)), (h2, .inl (cI, 2520, .inl f_307)), (h4, .inl (cI, 4096, .inl f_308)), (h5, .inl (cI, 81, .inl g4)), (h7, .inr (7, [.ref h8, .ref h9, .ref h10, .ref h11, .ref h12, .ref h13, .int a4, .int a5, .int a6, .int a7, .int a8, .int a9, .int a10, .int a11])), (h8, .inl (cI, 9, .inl g6)), (h9, .inl (cI, 9, .inl g7))]) [0, 1, 2, 3, 4, 5, 6, 7] rfl, hD.sub (ws' := [(h0, .inr (0, [.ref h1, .ref h2, .ref h3, .ref h4, .ref h5, .ref h6, .int x_309, .int a1, .int a2, .int x_310])), (h1, .inl (cI, 2520, .inl f_306)), (h2, .inl (cI, 2520, .inl f_307)), (h4, .inl (cI, 4096, .inl f_308)), (h5, .inl (cI, 81, .inl g4)), (h7, .inr (7, [.ref h8, .ref h9, .ref h10, .ref h11, .ref h12, .ref h13, .int a4, .int a5, .int a6, .int a7, .int a8, .int a9, .int a10, .int a11])), (h8, .inl (cI, 9, .inl g6)), (h9, .inl (cI, 9, .inl g7))]) [0, 1, 2, 3, 4, 5, 6, 7] (by decide) rfl, hS, lv_sub hl [0, 1, 2, 3, 4, 5, 6, 7, 8] rfl, (rg_mono hx_349 (by decide) (by decide)), (rg_mono hx_309 (by decide) (by decide)), kl49_310_0⟩ (by show ((9) - x_349.toInt).toNat < ((9) - x_305.toInt).toNat; have ha := h_344; simp only [rg] at ha; omega)
      · skip
        have h_350 : rg (1) (1) x_346 := by have ha := hx_346; have hb_ := (rg_k (x := 1) (c := 1) (by decide)); simp only [rg, fa_lt, fa_le, fa_eq, (by decide : (1 : Int32).toInt = 1)] at ha hb_ c_347; simp only [rg]; omega
        have h_351 : rg (1) (511) x_345 := rg_meet hx_345 (kx_346_0 (rg_mono h_350 (by decide) (by decide))) (by decide) (by decide)
        have h_352 : rg (1) (511) x_9 := rg_meet hx_9 (kx_345_0 (rg_mono h_351 (by decide) (by decide))) (by decide) (by decide)
        have h_353 : rg (1) (511) x_7 := rg_meet hx_7 (kx_9_0 (rg_mono h_352 (by decide) (by decide))) (by decide) (by decide)
        have h_354 : rg (1) (511) x_5 := rg_meet hx_5 (kx_7_0 (rg_mono h_353 (by decide) (by decide))) (by decide) (by decide)
        have h_355 : rg (1) (511) x_6 := rg_meet hx_6 (kx_7_1 (rg_mono h_353 (by decide) (by decide))) (by decide) (by decide)
        refine lv_aload_n hx hb dX0_walk_67 rfl (lv_at hl 3 rfl) ?_
        refine lv_aload_n hx hb dX0_walk_68 rfl (lv_at hl 4 rfl) ?_
        refine lv_iload_n hx hb dX0_walk_69 rfl (lv_at hl 5 rfl) ?_
        refine lv_iconst (v := 1) hx hb dX0_walk_70 (by decide) ?_
        refine lv_iload hx hb dX0_walk_71 (lv_at hl 0 rfl) ?_
        refine lv_ishl hx hb dX0_walk_73 ?_
        refine lv_topi (fun x_356 ex_356 => ?_)
        have hx_356 : rg (1) (256) x_356 := by rw [ex_356]; exact rg_mono (rg_shl1 8 (rg_mono h_344 (by decide) (by decide)) (by decide)) (by decide) (by decide)
        refine lv_ior hx hb dX0_walk_74 ?_
        refine lv_topi (fun x_357 ex_357 => ?_)
        have hx_357 : rg (0) (511) x_357 := by rw [ex_357]; exact rg_mono (rg_or 9 (rg_mono hp1 (by decide) (by decide)) (rg_mono hx_356 (by decide) (by decide)) (by decide)) (by decide) (by decide)
        refine lv_iload hx hb dX0_walk_75 (lv_at hl 0 rfl) ?_
        refine lv_iload hx hb dX0_walk_77 (lv_at hl 7 rfl) ?_
        refine lv_aload_n hx hb dX0_walk_79 rfl (lv_at hl 3 rfl) ?_
        refine va_get (D := (dC, dI)) (ci := 0) (v := .ref h5) (C := RX0) (T := TX0) (N := 10) hx hb hts hinX0 hown hK hP 0 rfl rfl 4 (by decide) (hts (.fieldLink RX0 24 "MayRings$Families" "bits" "[I") (List.mem_of_getElem? (i := 7) rfl)) (fun _ h9 => h9) rfl dX0_walk_80 ?_
        refine lv_iload_n hx hb dX0_walk_83 rfl (lv_at hl 6 rfl) ?_
        refine lv_bipush (v := 9) hx hb dX0_walk_84 (by decide) ?_
        refine lv_imul hx hb dX0_walk_86 ?_
        refine lv_topi (fun x_358 ex_358 => ?_)
        have hx_358 : rg (0) (72) x_358 := by rw [ex_358]; exact rg_mono (rg_mul hp2 (rg_k (x := 9) (c := 9) (by decide)) (by decide) (by decide) (by decide)) (by decide) (by decide)
        refine lv_iload hx hb dX0_walk_87 (lv_at hl 0 rfl) ?_
        refine lv_iadd hx hb dX0_walk_89 ?_
        refine lv_topi (fun x_359 ex_359 => ?_)
        have hx_359 : rg (0) (80) x_359 := by rw [ex_359]; exact rg_mono (rg_add hx_358 h_344 (by decide) (by decide)) (by decide) (by decide)
        have qx_359 : x_359.toInt = x_358.toInt + x_305.toInt := by rw [ex_359]; exact rg_addQ hx_358 h_344 (by decide) (by decide)
        refine va_iald hx hb hK hP 4 1 rfl rfl (rg_in (n := 81) (rg_mono hx_359 (by decide) (by decide))) dX0_walk_90 ?_
        refine lv_topi (fun x_360 ex_360 => ?_)
        refine lv_ior hx hb dX0_walk_91 ?_
        refine lv_topi (fun x_361 ex_361 => ?_)
        refine lv_iload hx hb dX0_walk_92 (lv_at hl 8 rfl) ?_
        refine lv_iload hx hb dX0_walk_94 (lv_at hl 0 rfl) ?_
        refine lv_iconst (v := 4) hx hb dX0_walk_96 (by decide) ?_
        refine lv_iload hx hb dX0_walk_97 (lv_at hl 2 rfl) ?_
        refine lv_imul hx hb dX0_walk_99 ?_
        refine tp_v (.int 20) (congrArg Value.int (by decide)) ?_
        refine lv_ishl hx hb dX0_walk_100 ?_
        refine lv_topi (fun x_362 ex_362 => ?_)
        refine lv_ior hx hb dX0_walk_101 ?_
        refine lv_topi (fun x_363 ex_363 => ?_)
        have hPc := hP.sub (ws' := [(h0, .inr (0, [.ref h1, .ref h2, .ref h3, .ref h4, .ref h5, .ref h6, .int x_309, .int a1, .int a2, .int x_310])), (h1, .inl (cI, 2520, .inl f_306)), (h2, .inl (cI, 2520, .inl f_307)), (h4, .inl (cI, 4096, .inl f_308)), (h5, .inl (cI, 81, .inl g4)), (h7, .inr (7, [.ref h8, .ref h9, .ref h10, .ref h11, .ref h12, .ref h13, .int a4, .int a5, .int a6, .int a7, .int a8, .int a9, .int a10, .int a11])), (h8, .inl (cI, 9, .inl g6)), (h9, .inl (cI, 9, .inl g7))]) [0, 1, 2, 3, 4, 5, 6, 7] rfl
        have hDc := hD.sub (ws' := [(h0, .inr (0, [.ref h1, .ref h2, .ref h3, .ref h4, .ref h5, .ref h6, .int x_309, .int a1, .int a2, .int x_310])), (h1, .inl (cI, 2520, .inl f_306)), (h2, .inl (cI, 2520, .inl f_307)), (h4, .inl (cI, 4096, .inl f_308)), (h5, .inl (cI, 81, .inl g4)), (h7, .inr (7, [.ref h8, .ref h9, .ref h10, .ref h11, .ref h12, .ref h13, .int a4, .int a5, .int a6, .int a7, .int a8, .int a9, .int a10, .int a11])), (h8, .inl (cI, 9, .inl g6)), (h9, .inl (cI, 9, .inl g7))]) [0, 1, 2, 3, 4, 5, 6, 7] (by decide) rfl
        have hFc := va_free (wc := [(h0, .inr (0, [.ref h1, .ref h2, .ref h3, .ref h4, .ref h5, .ref h6, .int x_309, .int a1, .int a2, .int x_310])), (h1, .inl (cI, 2520, .inl f_306)), (h2, .inl (cI, 2520, .inl f_307)), (h4, .inl (cI, 4096, .inl f_308)), (h5, .inl (cI, 81, .inl g4)), (h7, .inr (7, [.ref h8, .ref h9, .ref h10, .ref h11, .ref h12, .ref h13, .int a4, .int a5, .int a6, .int a7, .int a8, .int a9, .int a10, .int a11])), (h8, .inl (cI, 9, .inl g6)), (h9, .inl (cI, 9, .inl g7))]) hD hS hA [0, 1, 2, 3, 4, 5, 6, 7] rfl
        refine va_callv (va_runV (As := [.ref h7, .int x_357, .int x_305, .int x_361, .int x_363]) (rest := []) ⟨hx, hb, hml, hown, hts⟩ (c_s_X0_walk_k6 l dC dI cB cI cJ cZ cP h0 h1 f_306 h2 f_307 h3 h4 f_308 h5 g4 h6 x_309 (rg_mono hx_309 (by decide) (by decide)) a1 a2 (rg_mono h_4 (by decide) (by decide)) x_310 h7 h8 g6 hg6 h9 g7 hg7 h10 h11 h12 h13 a4 a5 a6 (rg_mono ha6 (by decide) (by decide)) a7 a8 a9 a10 a11 x_357 (rg_mono hx_357 (by decide) (by decide)) x_305 (rg_mono h_344 (by decide) (by decide)) x_361 x_363 kl49_310_0 (show bcE x_357 = 6 from (by rw [ex_357, ex_356]; exact bc_step (rg_mono hp1 (by decide) (by decide)) (rg_mono h_344 (by decide) (by decide)) (ex_9.trans (by rw [ex_8])) (by rw [← ex_345, ← ex_346]; exact c_347) kr1 (by decide))) (show nbk 6 x_363 from (by rw [ex_363, ex_362]; exact nbk_step 5 kr2 (rg_mono h_344 (by decide) (by decide)) (by decide) (by decide))) H.size) (cwV 5 hts (gd_V (List.mem_of_getElem? (i := 8) rfl) (List.mem_of_getElem? (i := 9) rfl) (List.mem_of_getElem? (i := 10) rfl) (List.mem_of_getElem? (i := 11) rfl) (gd_mono k_s_X0_walk_k6 (fun _ h => List.mem_cons_of_mem _ (List.mem_append_right _ (List.mem_append_right _ (List.mem_append_right _ (List.mem_append_right _ (List.mem_append_left _ h)))))))) rfl rfl rfl (by decide +kernel) ⟨Nat.le_of_ble_eq_true rfl, Nat.le_of_ble_eq_true rfl⟩) ⟨fun a U g mk q => by obtain ⟨q0, q1, qP, qK, qD⟩ := q; exact ⟨q0, q1, qP, va_K.moved (u := U) (U := U.calling g mk a) (Vm.Alike.refl U.vm) qK, qD⟩, va_recv hK hPc (ci := 0) (q0 := 0) rfl rfl, fun U hU hW => ⟨rfl, by rw [hU], by rw [hU]; exact hPc, va_K.moved hW.alike hK, hDc.weaken (fun _ _ _ _ => trivial)⟩⟩ rfl rfl hl.1 rfl (lv_room (Nat.le_of_ble_eq_true rfl)) dX0_walk_102 ⟨Nat.le_of_ble_eq_true rfl, Nat.le_of_ble_eq_true rfl⟩) hS (fun q _ h => hFc q h) hFc (fun u t H1 locs ht hvm hw hB hz1 hk1 hS => ?_)
        obtain ⟨x_365, x_366, f_367, f_368, f_369, hx_365, k_370, hP1, hD1⟩ := hB
        rw [ht] at hP1
        obtain ⟨hP, hD⟩ := va_join (wr := []) (w1 := [(h0, .inr (0, [.ref h1, .ref h2, .ref h3, .ref h4, .ref h5, .ref h6, .int x_365, .int a1, .int a2, .int x_366])), (h1, .inl (cI, 2520, .inl f_367)), (h2, .inl (cI, 2520, .inl f_368)), (h4, .inl (cI, 4096, .inl f_369)), (h5, .inl (cI, 81, .inl g4)), (h7, .inr (7, [.ref h8, .ref h9, .ref h10, .ref h11, .ref h12, .ref h13, .int a4, .int a5, .int a6, .int a7, .int a8, .int a9, .int a10, .int a11])), (h8, .inl (cI, 9, .inl g6)), (h9, .inl (cI, 9, .inl g7))]) hP hD [0, 1, 2, 3, 4, 5, 6, 7] [] rfl rfl (by decide) (by decide) hk1 hFc hP1 hD1
        generalize H1 = H at hP hS ⊢
        replace hP : va_P (dC, dI) vwCl [(h0, .inr (0, [.ref h1, .ref h2, .ref h3, .ref h4, .ref h5, .ref h6, .int x_365, .int a1, .int a2, .int x_366])), (h1, .inl (cI, 2520, .inl f_367)), (h2, .inl (cI, 2520, .inl f_368)), (h4, .inl (cI, 4096, .inl f_369)), (h5, .inl (cI, 81, .inl g4)), (h7, .inr (7, [.ref h8, .ref h9, .ref h10, .ref h11, .ref h12, .ref h13, .int a4, .int a5, .int a6, .int a7, .int a8, .int a9, .int a10, .int a11])), (h8, .inl (cI, 9, .inl g6)), (h9, .inl (cI, 9, .inl g7))] H := hP
        replace hD : va_D A [(h0, .inr (0, [.ref h1, .ref h2, .ref h3, .ref h4, .ref h5, .ref h6, .int x_365, .int a1, .int a2, .int x_366])), (h1, .inl (cI, 2520, .inl f_367)), (h2, .inl (cI, 2520, .inl f_368)), (h4, .inl (cI, 4096, .inl f_369)), (h5, .inl (cI, 81, .inl g4)), (h7, .inr (7, [.ref h8, .ref h9, .ref h10, .ref h11, .ref h12, .ref h13, .int a4, .int a5, .int a6, .int a7, .int a8, .int a9, .int a10, .int a11])), (h8, .inl (cI, 9, .inl g6)), (h9, .inl (cI, 9, .inl g7))] := hD
        obtain ⟨x_371, ex_371⟩ : ∃ y : Int32, y = x_305 + Int32.ofInt (1) := ⟨_, rfl⟩
        have hx_371 : rg (1) (9) x_371 := by rw [ex_371]; exact rg_mono (rg_add h_344 (rg_k (x := Int32.ofInt (1)) (c := 1) (by decide)) (by decide) (by decide)) (by decide) (by decide)
        have qx_371 : x_371.toInt = x_305.toInt + (1) := by rw [ex_371]; exact rg_addE h_344 (rg_k (x := Int32.ofInt (1)) (c := 1) (by decide)) (by decide) (by decide) (by decide)
        refine lv_iinc (v := x_371) (lv' := [(8, .int x_371), (7, .int x_9), (6, .int 5), (0, .ref h0), (1, .ref h7), (2, .int p1), (3, .int p2), (4, .int p3), (5, .int p4)]) hx hb dX0_walk_105 hl (k := 0) rfl (ex_371.symm) (by decide) rfl (fun ls hl => ?_)
        clear ex_371
        refine lv_goto (tgt := 49) hx hb dX0_walk_108 (by decide) ?_
        exact ih_341 (x_371, f_367, f_368, f_369, x_365, x_366) H locs ls ⟨hP.sub (ws' := [(h0, .inr (0, [.ref h1, .ref h2, .ref h3, .ref h4, .ref h5, .ref h6, .int x_365, .int a1, .int a2, .int x_366])), (h1, .inl (cI, 2520, .inl f_367)), (h2, .inl (cI, 2520, .inl f_368)), (h4, .inl (cI, 4096, .inl f_369)), (h5, .inl (cI, 81, .inl g4)), (h7, .inr (7, [.ref h8, .ref h9, .ref h10, .ref h11, .ref h12, .ref h13, .int a4, .int a5, .int a6, .int a7, .int a8, .int a9, .int a10, .int a11])), (h8, .inl (cI, 9, .inl g6)), (h9, .inl (cI, 9, .inl g7))]) [0, 1, 2, 3, 4, 5, 6, 7] rfl, hD.sub (ws' := [(h0, .inr (0, [.ref h1, .ref h2, .ref h3, .ref h4, .ref h5, .ref h6, .int x_365, .int a1, .int a2, .int x_366])), (h1, .inl (cI, 2520, .inl f_367)), (h2, .inl (cI, 2520, .inl f_368)), (h4, .inl (cI, 4096, .inl f_369)), (h5, .inl (cI, 81, .inl g4)), (h7, .inr (7, [.ref h8, .ref h9, .ref h10, .ref h11, .ref h12, .ref h13, .int a4, .int a5, .int a6, .int a7, .int a8, .int a9, .int a10, .int a11])), (h8, .inl (cI, 9, .inl g6)), (h9, .inl (cI, 9, .inl g7))]) [0, 1, 2, 3, 4, 5, 6, 7] (by decide) rfl, hS, lv_sub hl [0, 1, 2, 3, 4, 5, 6, 7, 8] rfl, (rg_mono hx_371 (by decide) (by decide)), (rg_mono hx_365 (by decide) (by decide)), k_370⟩ (by show ((9) - x_371.toInt).toNat < ((9) - x_305.toInt).toNat; have ha := h_344; simp only [rg] at ha; omega)
  · skip
    have h_372 : rg (1) (5) a2 := by have ha := (rg_k (x := 5) (c := 5) (by decide)); have hb_ := ha2; simp only [rg, fa_lt, fa_le, fa_eq, (by decide : (5 : Int32).toInt = 5)] at ha hb_ c_3; simp only [rg]; omega
    refine lv_aload_n hx hb dX0_walk_15 rfl (lv_at hl 1 rfl) ?_
    refine lv_aload_n hx hb dX0_walk_16 rfl (lv_at hl 2 rfl) ?_
    refine lv_iload_n hx hb dX0_walk_17 rfl (lv_at hl 4 rfl) ?_
    refine lv_iload hx hb dX0_walk_18 (lv_at hl 5 rfl) ?_
    refine lv_iload hx hb dX0_walk_20 (lv_at hl 6 rfl) ?_
    have hPc := hP.sub (ws' := [(h0, .inr (0, [.ref h1, .ref h2, .ref h3, .ref h4, .ref h5, .ref h6, .int a0, .int a1, .int a2, .int a3])), (h1, .inl (cI, 2520, .inl g0)), (h2, .inl (cI, 2520, .inl g1)), (h4, .inl (cI, 4096, .inl g3)), (h5, .inl (cI, 81, .inl g4)), (h7, .inr (7, [.ref h8, .ref h9, .ref h10, .ref h11, .ref h12, .ref h13, .int a4, .int a5, .int a6, .int a7, .int a8, .int a9, .int a10, .int a11])), (h9, .inl (cI, 9, .inl g7))]) [0, 1, 2, 3, 4, 5, 7] rfl
    have hDc := hD.sub (ws' := [(h0, .inr (0, [.ref h1, .ref h2, .ref h3, .ref h4, .ref h5, .ref h6, .int a0, .int a1, .int a2, .int a3])), (h1, .inl (cI, 2520, .inl g0)), (h2, .inl (cI, 2520, .inl g1)), (h4, .inl (cI, 4096, .inl g3)), (h5, .inl (cI, 81, .inl g4)), (h7, .inr (7, [.ref h8, .ref h9, .ref h10, .ref h11, .ref h12, .ref h13, .int a4, .int a5, .int a6, .int a7, .int a8, .int a9, .int a10, .int a11])), (h9, .inl (cI, 9, .inl g7))]) [0, 1, 2, 3, 4, 5, 7] (by decide) rfl
    have hFc := va_free (wc := [(h0, .inr (0, [.ref h1, .ref h2, .ref h3, .ref h4, .ref h5, .ref h6, .int a0, .int a1, .int a2, .int a3])), (h1, .inl (cI, 2520, .inl g0)), (h2, .inl (cI, 2520, .inl g1)), (h4, .inl (cI, 4096, .inl g3)), (h5, .inl (cI, 81, .inl g4)), (h7, .inr (7, [.ref h8, .ref h9, .ref h10, .ref h11, .ref h12, .ref h13, .int a4, .int a5, .int a6, .int a7, .int a8, .int a9, .int a10, .int a11])), (h9, .inl (cI, 9, .inl g7))]) hD hS hA [0, 1, 2, 3, 4, 5, 7] rfl
    refine va_callv (va_runV (As := [.ref h7, .int p2, .int p3, .int p4]) (rest := []) ⟨hx, hb, hml, hown, hts⟩ (c_s_X0_close l dC dI cB cI cJ cZ cP h0 h1 g0 h2 g1 h3 h4 g3 h5 g4 h6 a0 (rg_mono ha0 (by decide) (by decide)) a1 a2 a3 h7 h8 h9 g7 hg7 h10 h11 h12 h13 a4 a5 a6 (rg_mono ha6 (by decide) (by decide)) a7 a8 a9 a10 a11 p2 (rg_mono hp2 (by decide) (by decide)) p3 p4 kr0 (show nb p4 from nb_of kr2) H.size) (cwV 4 hts (gd_V (List.mem_of_getElem? (i := 12) rfl) (List.mem_of_getElem? (i := 13) rfl) (List.mem_of_getElem? (i := 14) rfl) (List.mem_of_getElem? (i := 11) rfl) (gd_mono k_s_X0_close (fun _ h => List.mem_cons_of_mem _ (List.mem_append_right _ (List.mem_append_right _ (List.mem_append_right _ (List.mem_append_right _ (List.mem_append_right _ (List.mem_append_left _ h))))))))) rfl rfl rfl (by decide +kernel) ⟨Nat.le_of_ble_eq_true rfl, Nat.le_of_ble_eq_true rfl⟩) ⟨fun a U g mk q => by obtain ⟨q0, q1, qP, qK, qD⟩ := q; exact ⟨q0, q1, qP, va_K.moved (u := U) (U := U.calling g mk a) (Vm.Alike.refl U.vm) qK, qD⟩, va_recv hK hPc (ci := 0) (q0 := 0) rfl rfl, fun U hU hW => ⟨rfl, by rw [hU], by rw [hU]; exact hPc, va_K.moved hW.alike hK, hDc.weaken (fun _ _ _ _ => trivial)⟩⟩ rfl rfl hl.1 rfl (lv_room (Nat.le_of_ble_eq_true rfl)) dX0_walk_22 ⟨Nat.le_of_ble_eq_true rfl, Nat.le_of_ble_eq_true rfl⟩) hS (fun q _ h => hFc q h) hFc (fun u t H1 locs ht hvm hw hB hz1 hk1 hS => ?_)
    obtain ⟨x_374, x_375, f_376, f_377, f_378, hx_374, k_379, hP1, hD1⟩ := hB
    rw [ht] at hP1
    obtain ⟨hP, hD⟩ := va_join (wr := [(h8, .inl (cI, 9, .inl g6))]) (w1 := [(h0, .inr (0, [.ref h1, .ref h2, .ref h3, .ref h4, .ref h5, .ref h6, .int x_374, .int a1, .int a2, .int x_375])), (h1, .inl (cI, 2520, .inl f_376)), (h2, .inl (cI, 2520, .inl f_377)), (h4, .inl (cI, 4096, .inl f_378)), (h5, .inl (cI, 81, .inl g4)), (h7, .inr (7, [.ref h8, .ref h9, .ref h10, .ref h11, .ref h12, .ref h13, .int a4, .int a5, .int a6, .int a7, .int a8, .int a9, .int a10, .int a11])), (h9, .inl (cI, 9, .inl g7))]) hP hD [0, 1, 2, 3, 4, 5, 7] [6] rfl rfl (by decide) (by decide) hk1 hFc hP1 hD1
    generalize H1 = H at hP hS ⊢
    replace hP : va_P (dC, dI) vwCl [(h8, .inl (cI, 9, .inl g6)), (h0, .inr (0, [.ref h1, .ref h2, .ref h3, .ref h4, .ref h5, .ref h6, .int x_374, .int a1, .int a2, .int x_375])), (h1, .inl (cI, 2520, .inl f_376)), (h2, .inl (cI, 2520, .inl f_377)), (h4, .inl (cI, 4096, .inl f_378)), (h5, .inl (cI, 81, .inl g4)), (h7, .inr (7, [.ref h8, .ref h9, .ref h10, .ref h11, .ref h12, .ref h13, .int a4, .int a5, .int a6, .int a7, .int a8, .int a9, .int a10, .int a11])), (h9, .inl (cI, 9, .inl g7))] H := hP
    replace hD : va_D A [(h8, .inl (cI, 9, .inl g6)), (h0, .inr (0, [.ref h1, .ref h2, .ref h3, .ref h4, .ref h5, .ref h6, .int x_374, .int a1, .int a2, .int x_375])), (h1, .inl (cI, 2520, .inl f_376)), (h2, .inl (cI, 2520, .inl f_377)), (h4, .inl (cI, 4096, .inl f_378)), (h5, .inl (cI, 81, .inl g4)), (h7, .inr (7, [.ref h8, .ref h9, .ref h10, .ref h11, .ref h12, .ref h13, .int a4, .int a5, .int a6, .int a7, .int a8, .int a9, .int a10, .int a11])), (h9, .inl (cI, 9, .inl g7))] := hD
    have hP9 := hP.sub (ws' := [(h0, .inr (0, [.ref h1, .ref h2, .ref h3, .ref h4, .ref h5, .ref h6, .int x_374, .int a1, .int a2, .int x_375])), (h1, .inl (cI, 2520, .inl f_376)), (h2, .inl (cI, 2520, .inl f_377)), (h4, .inl (cI, 4096, .inl f_378)), (h5, .inl (cI, 81, .inl g4)), (h7, .inr (7, [.ref h8, .ref h9, .ref h10, .ref h11, .ref h12, .ref h13, .int a4, .int a5, .int a6, .int a7, .int a8, .int a9, .int a10, .int a11])), (h8, .inl (cI, 9, .inl g6)), (h9, .inl (cI, 9, .inl g7))]) [1, 2, 3, 4, 5, 6, 0, 7] rfl
    have hD9 := hD.sub (ws' := [(h0, .inr (0, [.ref h1, .ref h2, .ref h3, .ref h4, .ref h5, .ref h6, .int x_374, .int a1, .int a2, .int x_375])), (h1, .inl (cI, 2520, .inl f_376)), (h2, .inl (cI, 2520, .inl f_377)), (h4, .inl (cI, 4096, .inl f_378)), (h5, .inl (cI, 81, .inl g4)), (h7, .inr (7, [.ref h8, .ref h9, .ref h10, .ref h11, .ref h12, .ref h13, .int a4, .int a5, .int a6, .int a7, .int a8, .int a9, .int a10, .int a11])), (h8, .inl (cI, 9, .inl g6)), (h9, .inl (cI, 9, .inl g7))]) [1, 2, 3, 4, 5, 6, 0, 7] (by decide) rfl
    exact W.vret hx hb hr (fun t ht hW => ⟨⟨(), rfl, trivial, ⟨x_374, x_375, f_376, f_377, f_378, (rg_mono hx_374 (by decide) (by decide)), k_379, by rw [ht]; exact hP9, hD9⟩⟩, hS.F ht⟩) hS.2.2 dX0_walk_25
def v_s_X0_walk_k4 : List Cond := Cond.code yX0_walk cX0_walk 9 none :: ([Cond.methodLink RX0 81 yJ6_bitCount_0f7a4, Cond.static yJ6_bitCount_0f7a4, Cond.initialized RJ6, Cond.fieldLink RX0 37 "MayRings$Families" "size" "I", Cond.fieldLink RX0 67 "MayRings$Ways" "ground" "[I", Cond.fieldLink RX0 78 "MayRings$Ways" "pairs" "[I", Cond.fieldLink RX0 24 "MayRings$Families" "bits" "[I", Cond.methodLink RX0 70 yX0_walk, Cond.instanceMethod yX0_walk, Cond.selects RX0 yX0_walk yX0_walk, Cond.initialized RX0, Cond.methodLink RX0 87 yX0_close, Cond.instanceMethod yX0_close, Cond.selects RX0 yX0_close yX0_close] ++ (wsX00 ++ (wsX70 ++ (v_s_J6_bitCount_0f7a4_b9 ++ (v_s_X0_walk_k5 ++ (v_s_X0_close ++ ([])))))))
theorem k_s_X0_walk_k4 : GoodIn lw_tbl v_s_X0_walk_k4 := gd_c (List.mem_of_getElem? (i := 1051) (by decide +kernel)) rfl (goodIn_app (gd_c (List.mem_of_getElem? (i := 1052) (by decide +kernel)) rfl (gd_c (List.mem_of_getElem? (i := 878) (by decide +kernel)) rfl (gd_c (List.mem_of_getElem? (i := 147) (by decide +kernel)) rfl (gd_c (List.mem_of_getElem? (i := 508) (by decide +kernel)) rfl (gd_c (List.mem_of_getElem? (i := 441) (by decide +kernel)) rfl (gd_c (List.mem_of_getElem? (i := 444) (by decide +kernel)) rfl (gd_c (List.mem_of_getElem? (i := 504) (by decide +kernel)) rfl (gd_c (List.mem_of_getElem? (i := 1048) (by decide +kernel)) rfl (gd_c (List.mem_of_getElem? (i := 1050) (by decide +kernel)) rfl (gd_c (List.mem_of_getElem? (i := 56) (by decide +kernel)) rfl (gd_c (List.mem_of_getElem? (i := 143) (by decide +kernel)) rfl (gd_c (List.mem_of_getElem? (i := 1053) (by decide +kernel)) rfl (gd_c (List.mem_of_getElem? (i := 1055) (by decide +kernel)) rfl (gd_c (List.mem_of_getElem? (i := 57) (by decide +kernel)) rfl (gd_nil))))))))))))))) (goodIn_app kfX0 (goodIn_app kfX7 (goodIn_app k_s_J6_bitCount_0f7a4_b9 (goodIn_app k_s_X0_walk_k5 (goodIn_app k_s_X0_close (gd_nil)))))))
set_option maxHeartbeats 2000000 in
set_option maxRecDepth 100000 in
theorem c_s_X0_walk_k4 (l : Launch) (dC : Nat → ClassId) (dI : Nat → Nat → Nat) (cB cI cJ cZ cP : ClassId) (h0 : Nat) (h1 : Nat) (g0 : Nat → Int32) (h2 : Nat) (g1 : Nat → Int32) (h3 : Nat) (h4 : Nat) (g3 : Nat → Int32) (h5 : Nat) (g4 : Nat → Int32) (h6 : Nat) (a0 : Int32) (ha0 : rg (0) (2520) a0) (a1 : Int32) (a2 : Int32) (ha2 : rg (1) (7) a2) (a3 : Int32) (h7 : Nat) (h8 : Nat) (g6 : Nat → Int32) (hg6 : rgA (0) (511) g6) (h9 : Nat) (g7 : Nat → Int32) (hg7 : rgA (0) (511) g7) (h10 : Nat) (h11 : Nat) (h12 : Nat) (h13 : Nat) (a4 : Int32) (a5 : Int32) (a6 : Int32) (ha6 : rg (0) (1) a6) (a7 : Int32) (a8 : Int32) (a9 : Int32) (a10 : Int32) (a11 : Int32) (p1 : Int32) (hp1 : rg (0) (511) p1) (p2 : Int32) (hp2 : rg (0) (8) p2) (p3 : Int32) (p4 : Int32) (kr0 : nbA g1) (kr1 : bcE p1 = 4) (kr2 : nbk 4 p4) (sz : Nat) : Met l yX0_walk v_s_X0_walk_k4 ({ frames := 5, cells := 0, slots := 0, locals := 133 }) (va_Pc [.ref h0, .ref h7, .int p1, .int p2, .int p3, .int p4] (fun U => U.heap.size = sz ∧ va_P (dC, dI) vwCl [(h0, .inr (0, [.ref h1, .ref h2, .ref h3, .ref h4, .ref h5, .ref h6, .int a0, .int a1, .int a2, .int a3])), (h1, .inl (cI, 2520, .inl g0)), (h2, .inl (cI, 2520, .inl g1)), (h4, .inl (cI, 4096, .inl g3)), (h5, .inl (cI, 81, .inl g4)), (h7, .inr (7, [.ref h8, .ref h9, .ref h10, .ref h11, .ref h12, .ref h13, .int a4, .int a5, .int a6, .int a7, .int a8, .int a9, .int a10, .int a11])), (h8, .inl (cI, 9, .inl g6)), (h9, .inl (cI, 9, .inl g7))] U.heap ∧ va_K (dC, dI) vwCl (ty5 cB cI cJ cZ cP) U ∧ va_D (fun _ => True) [(h0, .inr (0, [.ref h1, .ref h2, .ref h3, .ref h4, .ref h5, .ref h6, .int a0, .int a1, .int a2, .int a3])), (h1, .inl (cI, 2520, .inl g0)), (h2, .inl (cI, 2520, .inl g1)), (h4, .inl (cI, 4096, .inl g3)), (h5, .inl (cI, 81, .inl g4)), (h7, .inr (7, [.ref h8, .ref h9, .ref h10, .ref h11, .ref h12, .ref h13, .int a4, .int a5, .int a6, .int a7, .int a8, .int a9, .int a10, .int a11])), (h8, .inl (cI, 9, .inl g6)), (h9, .inl (cI, 9, .inl g7))])) (va_Qv (fun _ : Unit => True) (fun _ t => ∃ (z0 : Int32) (z1 : Int32) (z2 : Nat → Int32) (z3 : Nat → Int32) (z4 : Nat → Int32), rg (0) (2520) z0 ∧ (nbA z3) ∧ va_P (dC, dI) vwCl [(h0, .inr (0, [.ref h1, .ref h2, .ref h3, .ref h4, .ref h5, .ref h6, .int z0, .int a1, .int a2, .int z1])), (h1, .inl (cI, 2520, .inl z2)), (h2, .inl (cI, 2520, .inl z3)), (h4, .inl (cI, 4096, .inl z4)), (h5, .inl (cI, 81, .inl g4)), (h7, .inr (7, [.ref h8, .ref h9, .ref h10, .ref h11, .ref h12, .ref h13, .int a4, .int a5, .int a6, .int a7, .int a8, .int a9, .int a10, .int a11])), (h8, .inl (cI, 9, .inl g6)), (h9, .inl (cI, 9, .inl g7))] t.heap ∧ va_D (va_A [(h0, .inr (0, [.ref h1, .ref h2, .ref h3, .ref h4, .ref h5, .ref h6, .int a0, .int a1, .int a2, .int a3])), (h1, .inl (cI, 2520, .inl g0)), (h2, .inl (cI, 2520, .inl g1)), (h4, .inl (cI, 4096, .inl g3)), (h5, .inl (cI, 81, .inl g4)), (h7, .inr (7, [.ref h8, .ref h9, .ref h10, .ref h11, .ref h12, .ref h13, .int a4, .int a5, .int a6, .int a7, .int a8, .int a9, .int a10, .int a11])), (h8, .inl (cI, 9, .inl g6)), (h9, .inl (cI, 9, .inl g7))] sz) [(h0, .inr (0, [.ref h1, .ref h2, .ref h3, .ref h4, .ref h5, .ref h6, .int z0, .int a1, .int a2, .int z1])), (h1, .inl (cI, 2520, .inl z2)), (h2, .inl (cI, 2520, .inl z3)), (h4, .inl (cI, 4096, .inl z4)), (h5, .inl (cI, 81, .inl g4)), (h7, .inr (7, [.ref h8, .ref h9, .ref h10, .ref h11, .ref h12, .ref h13, .int a4, .int a5, .int a6, .int a7, .int a8, .int a9, .int a10, .int a11])), (h8, .inl (cI, 9, .inl g6)), (h9, .inl (cI, 9, .inl g7))]) (va_A [(h0, .inr (0, [.ref h1, .ref h2, .ref h3, .ref h4, .ref h5, .ref h6, .int a0, .int a1, .int a2, .int a3])), (h1, .inl (cI, 2520, .inl g0)), (h2, .inl (cI, 2520, .inl g1)), (h4, .inl (cI, 4096, .inl g3)), (h5, .inl (cI, 81, .inl g4)), (h7, .inr (7, [.ref h8, .ref h9, .ref h10, .ref h11, .ref h12, .ref h13, .int a4, .int a5, .int a6, .int a7, .int a8, .int a9, .int a10, .int a11])), (h8, .inl (cI, 9, .inl g6)), (h9, .inl (cI, 9, .inl g7))] sz)) 0 0 (va_A [(h0, .inr (0, [.ref h1, .ref h2, .ref h3, .ref h4, .ref h5, .ref h6, .int a0, .int a1, .int a2, .int a3])), (h1, .inl (cI, 2520, .inl g0)), (h2, .inl (cI, 2520, .inl g1)), (h4, .inl (cI, 4096, .inl g3)), (h5, .inl (cI, 81, .inl g4)), (h7, .inr (7, [.ref h8, .ref h9, .ref h10, .ref h11, .ref h12, .ref h13, .int a4, .int a5, .int a6, .int a7, .int a8, .int a9, .int a10, .int a11])), (h8, .inl (cI, 9, .inl g6)), (h9, .inl (cI, 9, .inl g7))] sz) := by
  refine Met.ofW (cc := cX0_walk) (maxL := 9) (ret := none) (by decide) rfl ?_
  intro p e s m args below meth c s₁ B hml hv
  obtain ⟨rfl, hsz, hP, hK, hD0⟩ := hv
  have hx := B.exec
  have hb := B.bytes
  have hr := B.returns
  have hts := atoms_spec (ws := v_s_X0_walk_k4) B.pre
  have hown : s.vm.findClass RX0 = some m.cls := findClass_of_methodNamed B.named
  have hlocks := B.notSynchronized
  have hinX0 : ∀ w ∈ wsX00, w ∈ v_s_X0_walk_k4 := fun _ h => List.mem_cons_of_mem _ (List.mem_append_right _ (List.mem_append_left _ h))
  have hinX7 : ∀ w ∈ wsX70, w ∈ v_s_X0_walk_k4 := fun _ h => List.mem_cons_of_mem _ (List.mem_append_right _ (List.mem_append_right _ (List.mem_append_left _ h)))
  subst hsz
  have hD := hD0.self (sz := s.heap.size)
  generalize hAe : va_A [(h0, .inr (0, [.ref h1, .ref h2, .ref h3, .ref h4, .ref h5, .ref h6, .int a0, .int a1, .int a2, .int a3])), (h1, .inl (cI, 2520, .inl g0)), (h2, .inl (cI, 2520, .inl g1)), (h4, .inl (cI, 4096, .inl g3)), (h5, .inl (cI, 81, .inl g4)), (h7, .inr (7, [.ref h8, .ref h9, .ref h10, .ref h11, .ref h12, .ref h13, .int a4, .int a5, .int a6, .int a7, .int a8, .int a9, .int a10, .int a11])), (h8, .inl (cI, 9, .inl g6)), (h9, .inl (cI, 9, .inl g7))] s.heap.size = A at hD ⊢
  have hA : ∀ q : Nat, s.heap.size ≤ q → A q := fun q h => by rw [← hAe]; exact Or.inr h
  have hP : va_P (dC, dI) vwCl [(h0, .inr (0, [.ref h1, .ref h2, .ref h3, .ref h4, .ref h5, .ref h6, .int a0, .int a1, .int a2, .int a3])), (h1, .inl (cI, 2520, .inl g0)), (h2, .inl (cI, 2520, .inl g1)), (h4, .inl (cI, 4096, .inl g3)), (h5, .inl (cI, 81, .inl g4)), (h7, .inr (7, [.ref h8, .ref h9, .ref h10, .ref h11, .ref h12, .ref h13, .int a4, .int a5, .int a6, .int a7, .int a8, .int a9, .int a10, .int a11])), (h8, .inl (cI, 9, .inl g6)), (h9, .inl (cI, 9, .inl g7))] s.heap := hP
  have hl := lv_entry ([.ref h0, .ref h7, .int p1, .int p2, .int p3, .int p4]) (n := 9) (Nat.le_of_ble_eq_true rfl)
  rw [lg_entry_eq]
  generalize (lg_sl ([.ref h0, .ref h7, .int p1, .int p2, .int p3, .int p4]) ++ List.replicate (9 - (lg_sl ([.ref h0, .ref h7, .int p1, .int p2, .int p3, .int p4])).length) Slot.unset).toArray = ls at hl ⊢
  have hl : lv_has ls 9 [(0, .ref h0), (1, .ref h7), (2, .int p1), (3, .int p2), (4, .int p3), (5, .int p4)] := hl
  refine W_gen (A := A) hP (fun H locs hP hS => ?_)
  refine lv_iload_n hx hb dX0_walk_0 rfl (lv_at hl 2 rfl) ?_
  have hPc := hP.sub (ws' := []) [] rfl
  have hDc := hD.sub (ws' := []) [] (by decide) rfl
  have hFc := va_free (wc := []) hD hS hA [] rfl
  refine va_calli (va_runS (As := [.int p1]) (rest := []) ⟨hx, hb, hml, hown, hts⟩ (c_s_J6_bitCount_0f7a4_b9 l dC dI cB cI cJ cZ cP p1 (rg_mono hp1 (by decide) (by decide)) H.size) (va_cwS 1 hts (gd_S (List.mem_of_getElem? (i := 1) rfl) (List.mem_of_getElem? (i := 2) rfl) (List.mem_of_getElem? (i := 3) rfl) (gd_mono k_s_J6_bitCount_0f7a4_b9 (fun _ h => List.mem_cons_of_mem _ (List.mem_append_right _ (List.mem_append_right _ (List.mem_append_right _ (List.mem_append_left _ h))))))) rfl rfl rfl (by decide +kernel) ⟨Nat.le_of_ble_eq_true rfl, Nat.le_of_ble_eq_true rfl⟩) ⟨fun a U g mk q => by obtain ⟨q0, q1, qP, qK, qD⟩ := q; exact ⟨q0, q1, qP, va_K.moved (u := U) (U := U.calling g mk a) (Vm.Alike.refl U.vm) qK, qD⟩, fun U hU hW => ⟨rfl, by rw [hU], by rw [hU]; exact hPc, va_K.moved hW.alike hK, hDc.weaken (fun _ _ _ _ => trivial)⟩⟩ rfl rfl hl.1 rfl (lv_room (Nat.le_of_ble_eq_true rfl)) dX0_walk_1 ⟨Nat.le_of_ble_eq_true rfl, Nat.le_of_ble_eq_true rfl⟩) hS (fun q _ h => hFc q h) hFc (fun r_1 u t H1 locs ht hvm hw hB hz1 hk1 hS => ?_)
  obtain ⟨hu9, hw⟩ := hw
  rw [hu9] at hB
  clear hu9
  obtain ⟨k_2, hP1, hD1⟩ := hB
  rw [ht] at hP1
  obtain ⟨hP, hD⟩ := va_join (wr := [(h0, .inr (0, [.ref h1, .ref h2, .ref h3, .ref h4, .ref h5, .ref h6, .int a0, .int a1, .int a2, .int a3])), (h1, .inl (cI, 2520, .inl g0)), (h2, .inl (cI, 2520, .inl g1)), (h4, .inl (cI, 4096, .inl g3)), (h5, .inl (cI, 81, .inl g4)), (h7, .inr (7, [.ref h8, .ref h9, .ref h10, .ref h11, .ref h12, .ref h13, .int a4, .int a5, .int a6, .int a7, .int a8, .int a9, .int a10, .int a11])), (h8, .inl (cI, 9, .inl g6)), (h9, .inl (cI, 9, .inl g7))]) (w1 := []) hP hD [] [0, 1, 2, 3, 4, 5, 6, 7] rfl rfl (by decide) (by decide) hk1 hFc hP1 hD1
  generalize H1 = H at hP hS ⊢
  replace hP : va_P (dC, dI) vwCl [(h0, .inr (0, [.ref h1, .ref h2, .ref h3, .ref h4, .ref h5, .ref h6, .int a0, .int a1, .int a2, .int a3])), (h1, .inl (cI, 2520, .inl g0)), (h2, .inl (cI, 2520, .inl g1)), (h4, .inl (cI, 4096, .inl g3)), (h5, .inl (cI, 81, .inl g4)), (h7, .inr (7, [.ref h8, .ref h9, .ref h10, .ref h11, .ref h12, .ref h13, .int a4, .int a5, .int a6, .int a7, .int a8, .int a9, .int a10, .int a11])), (h8, .inl (cI, 9, .inl g6)), (h9, .inl (cI, 9, .inl g7))] H := hP
  replace hD : va_D A [(h0, .inr (0, [.ref h1, .ref h2, .ref h3, .ref h4, .ref h5, .ref h6, .int a0, .int a1, .int a2, .int a3])), (h1, .inl (cI, 2520, .inl g0)), (h2, .inl (cI, 2520, .inl g1)), (h4, .inl (cI, 4096, .inl g3)), (h5, .inl (cI, 81, .inl g4)), (h7, .inr (7, [.ref h8, .ref h9, .ref h10, .ref h11, .ref h12, .ref h13, .int a4, .int a5, .int a6, .int a7, .int a8, .int a9, .int a10, .int a11])), (h8, .inl (cI, 9, .inl g6)), (h9, .inl (cI, 9, .inl g7))] := hD
  have hr_1 : rg (0) (9) r_1 := hw.1
  have kr_1_0 : rg (0) (8) r_1 → rg (0) (510) p1 := hw.2
  refine tp_v (.int 4) (congrArg Value.int (k_2.trans kr1)) ?_
  refine lv_istore (lv' := [(6, .int 4), (0, .ref h0), (1, .ref h7), (2, .int p1), (3, .int p2), (4, .int p3), (5, .int p4)]) hx hb dX0_walk_4 hl (by decide) rfl (fun ls hl => ?_)
  refine lv_iload hx hb dX0_walk_6 (lv_at hl 0 rfl) ?_
  refine lv_aload_n hx hb dX0_walk_8 rfl (lv_at hl 1 rfl) ?_
  refine va_get (D := (dC, dI)) (ci := 0) (v := .int a2) (C := RX0) (T := TX0) (N := 10) hx hb hts hinX0 hown hK hP 0 rfl rfl 8 (by decide) (hts (.fieldLink RX0 37 "MayRings$Families" "size" "I") (List.mem_of_getElem? (i := 4) rfl)) (fun _ h9 => h9) rfl dX0_walk_9 ?_
  refine lv_icmp_lt (tgt := 26) hx hb dX0_walk_12 (by decide) (fun c_3 => ?_) (fun c_3 => ?_)
  · skip
    have h_4 : rg (5) (7) a2 := by have ha := (rg_k (x := 4) (c := 4) (by decide)); have hb_ := ha2; simp only [rg, fa_lt, fa_le, fa_eq, (by decide : (4 : Int32).toInt = 4)] at ha hb_ c_3; simp only [rg]; omega
    refine lv_aload_n hx hb dX0_walk_26 rfl (lv_at hl 2 rfl) ?_
    refine va_get (D := (dC, dI)) (ci := 7) (v := .ref h8) (C := RX7) (T := TX7) (N := 14) hx hb hts hinX7 hown hK hP 5 rfl rfl 0 (by decide) (hts (.fieldLink RX0 67 "MayRings$Ways" "ground" "[I") (List.mem_of_getElem? (i := 5) rfl)) (fun _ h9 => h9) rfl dX0_walk_27 ?_
    refine lv_iload hx hb dX0_walk_30 (lv_at hl 0 rfl) ?_
    refine va_iald hx hb hK hP 6 1 rfl rfl (rg_in (n := 9) (rg_mono (rg_k (x := 4) (c := 4) (by decide)) (by decide) (by decide))) dX0_walk_32 ?_
    refine lv_topi (fun x_5 ex_5 => ?_)
    have hx_5 : rg (0) (511) x_5 := by rw [ex_5]; exact rg_mono (hg6 _) (by decide) (by decide)
    refine lv_aload_n hx hb dX0_walk_33 rfl (lv_at hl 2 rfl) ?_
    refine va_get (D := (dC, dI)) (ci := 7) (v := .ref h9) (C := RX7) (T := TX7) (N := 14) hx hb hts hinX7 hown hK hP 5 rfl rfl 1 (by decide) (hts (.fieldLink RX0 78 "MayRings$Ways" "pairs" "[I") (List.mem_of_getElem? (i := 6) rfl)) (fun _ h9 => h9) rfl dX0_walk_34 ?_
    refine lv_iload_n hx hb dX0_walk_37 rfl (lv_at hl 4 rfl) ?_
    refine va_iald hx hb hK hP 7 1 rfl rfl (rg_in (n := 9) (rg_mono hp2 (by decide) (by decide))) dX0_walk_38 ?_
    refine lv_topi (fun x_6 ex_6 => ?_)
    have hx_6 : rg (0) (511) x_6 := by rw [ex_6]; exact rg_mono (hg7 _) (by decide) (by decide)
    refine lv_iand hx hb dX0_walk_39 ?_
    refine lv_topi (fun x_7 ex_7 => ?_)
    have hx_7 : rg (0) (511) x_7 := by rw [ex_7]; exact rg_mono (rg_andl (b := 511) (rg_mono hx_5 (by decide) (by decide))) (by decide) (by decide)
    have kx_7_0 : rg 1 2147483647 x_7 → rg 1 (511) x_5 := fun hq => rg_andP hx_5 (ex_7 ▸ hq)
    have kx_7_1 : rg 1 2147483647 x_7 → rg 1 (511) x_6 := fun hq => rg_andP' hx_6 (ex_7 ▸ hq)
    refine lv_iload_n hx hb dX0_walk_40 rfl (lv_at hl 3 rfl) ?_
    refine lv_iconst (v := (-1)) hx hb dX0_walk_41 (by decide) ?_
    refine lv_ixor hx hb dX0_walk_42 ?_
    refine lv_topi (fun x_8 ex_8 => ?_)
    refine lv_iand hx hb dX0_walk_43 ?_
    refine lv_topi (fun x_9 ex_9 => ?_)
    have hx_9 : rg (0) (511) x_9 := by rw [ex_9]; exact rg_mono (rg_andl (b := 511) (rg_mono hx_7 (by decide) (by decide))) (by decide) (by decide)
    have kx_9_0 : rg 1 2147483647 x_9 → rg 1 (511) x_7 := fun hq => rg_andP hx_7 (ex_9 ▸ hq)
    refine lv_istore (lv' := [(7, .int x_9), (6, .int 4), (0, .ref h0), (1, .ref h7), (2, .int p1), (3, .int p2), (4, .int p3), (5, .int p4)]) hx hb dX0_walk_44 hl (by decide) rfl (fun ls hl => ?_)
    refine lv_iconst (v := 0) hx hb dX0_walk_46 (by decide) ?_
    refine lv_istore (lv' := [(8, .int 0), (7, .int x_9), (6, .int 4), (0, .ref h0), (1, .ref h7), (2, .int p1), (3, .int p2), (4, .int p3), (5, .int p4)]) hx hb dX0_walk_47 hl (by decide) rfl (fun ls hl => ?_)
    refine W_loopM (σ := Int32 × (Nat → Int32) × (Nat → Int32) × (Nat → Int32) × Int32 × Int32) (fun u H locs ls => va_P (dC, dI) vwCl [(h0, .inr (0, [.ref h1, .ref h2, .ref h3, .ref h4, .ref h5, .ref h6, .int u.2.2.2.2.1, .int a1, .int a2, .int u.2.2.2.2.2])), (h1, .inl (cI, 2520, .inl u.2.1)), (h2, .inl (cI, 2520, .inl u.2.2.1)), (h4, .inl (cI, 4096, .inl u.2.2.2.1)), (h5, .inl (cI, 81, .inl g4)), (h7, .inr (7, [.ref h8, .ref h9, .ref h10, .ref h11, .ref h12, .ref h13, .int a4, .int a5, .int a6, .int a7, .int a8, .int a9, .int a10, .int a11])), (h8, .inl (cI, 9, .inl g6)), (h9, .inl (cI, 9, .inl g7))] H ∧ va_D A [(h0, .inr (0, [.ref h1, .ref h2, .ref h3, .ref h4, .ref h5, .ref h6, .int u.2.2.2.2.1, .int a1, .int a2, .int u.2.2.2.2.2])), (h1, .inl (cI, 2520, .inl u.2.1)), (h2, .inl (cI, 2520, .inl u.2.2.1)), (h4, .inl (cI, 4096, .inl u.2.2.2.1)), (h5, .inl (cI, 81, .inl g4)), (h7, .inr (7, [.ref h8, .ref h9, .ref h10, .ref h11, .ref h12, .ref h13, .int a4, .int a5, .int a6, .int a7, .int a8, .int a9, .int a10, .int a11])), (h8, .inl (cI, 9, .inl g6)), (h9, .inl (cI, 9, .inl g7))] ∧ va_S A s.heap H locs ∧ lv_has ls 9 [(8, .int u.1), (7, .int x_9), (6, .int 4), (0, .ref h0), (1, .ref h7), (2, .int p1), (3, .int p2), (4, .int p3), (5, .int p4)] ∧ rg (0) (9) u.1 ∧ rg (0) (2520) u.2.2.2.2.1 ∧ (nbA u.2.2.1)) (fun u => ((9) - u.1.toInt).toNat) 49 [] ?_ (0, g0, g1, g3, a0, a3) H locs ls ⟨hP, hD, hS, hl, (rg_mono (rg_k (x := 0) (c := 0) (by decide)) (by decide) (by decide)), (rg_mono ha0 (by decide) (by decide)), kr0⟩
    rintro ⟨x_305, f_306, f_307, f_308, x_309, x_310⟩ H locs ls ⟨hP, hD, hS, hl, hx_305, hx_309, kl49_310_0⟩ ih_341
    replace kl49_310_0 : nbA f_307 := kl49_310_0
    replace hP : va_P (dC, dI) vwCl [(h0, .inr (0, [.ref h1, .ref h2, .ref h3, .ref h4, .ref h5, .ref h6, .int x_309, .int a1, .int a2, .int x_310])), (h1, .inl (cI, 2520, .inl f_306)), (h2, .inl (cI, 2520, .inl f_307)), (h4, .inl (cI, 4096, .inl f_308)), (h5, .inl (cI, 81, .inl g4)), (h7, .inr (7, [.ref h8, .ref h9, .ref h10, .ref h11, .ref h12, .ref h13, .int a4, .int a5, .int a6, .int a7, .int a8, .int a9, .int a10, .int a11])), (h8, .inl (cI, 9, .inl g6)), (h9, .inl (cI, 9, .inl g7))] H := hP
    replace hD : va_D A [(h0, .inr (0, [.ref h1, .ref h2, .ref h3, .ref h4, .ref h5, .ref h6, .int x_309, .int a1, .int a2, .int x_310])), (h1, .inl (cI, 2520, .inl f_306)), (h2, .inl (cI, 2520, .inl f_307)), (h4, .inl (cI, 4096, .inl f_308)), (h5, .inl (cI, 81, .inl g4)), (h7, .inr (7, [.ref h8, .ref h9, .ref h10, .ref h11, .ref h12, .ref h13, .int a4, .int a5, .int a6, .int a7, .int a8, .int a9, .int a10, .int a11])), (h8, .inl (cI, 9, .inl g6)), (h9, .inl (cI, 9, .inl g7))] := hD
    replace hl : lv_has ls 9 [(8, .int x_305), (7, .int x_9), (6, .int 4), (0, .ref h0), (1, .ref h7), (2, .int p1), (3, .int p2), (4, .int p3), (5, .int p4)] := hl
    replace hx_305 : rg (0) (9) x_305 := hx_305
    replace hx_309 : rg (0) (2520) x_309 := hx_309
    refine lv_iload hx hb dX0_walk_49 (lv_at hl 0 rfl) ?_
    refine lv_bipush (v := 9) hx hb dX0_walk_51 (by decide) ?_
    refine lv_icmp_ge (tgt := 111) hx hb dX0_walk_53 (by decide) (fun c_342 => ?_) (fun c_342 => ?_)
    · skip
      have h_343 : rg (9) (9) x_305 := by have ha := hx_305; have hb_ := (rg_k (x := 9) (c := 9) (by decide)); simp only [rg, fa_lt, fa_le, fa_eq, (by decide : (9 : Int32).toInt = 9)] at ha hb_ c_342; simp only [rg]; omega
      have hP9 := hP.sub (ws' := [(h0, .inr (0, [.ref h1, .ref h2, .ref h3, .ref h4, .ref h5, .ref h6, .int x_309, .int a1, .int a2, .int x_310])), (h1, .inl (cI, 2520, .inl f_306)), (h2, .inl (cI, 2520, .inl f_307)), (h4, .inl (cI, 4096, .inl f_308)), (h5, .inl (cI, 81, .inl g4)), (h7, .inr (7, [.ref h8, .ref h9, .ref h10, .ref h11, .ref h12, .ref h13, .int a4, .int a5, .int a6, .int a7, .int a8, .int a9, .int a10, .int a11])), (h8, .inl (cI, 9, .inl g6)), (h9, .inl (cI, 9, .inl g7))]) [0, 1, 2, 3, 4, 5, 6, 7] rfl
      have hD9 := hD.sub (ws' := [(h0, .inr (0, [.ref h1, .ref h2, .ref h3, .ref h4, .ref h5, .ref h6, .int x_309, .int a1, .int a2, .int x_310])), (h1, .inl (cI, 2520, .inl f_306)), (h2, .inl (cI, 2520, .inl f_307)), (h4, .inl (cI, 4096, .inl f_308)), (h5, .inl (cI, 81, .inl g4)), (h7, .inr (7, [.ref h8, .ref h9, .ref h10, .ref h11, .ref h12, .ref h13, .int a4, .int a5, .int a6, .int a7, .int a8, .int a9, .int a10, .int a11])), (h8, .inl (cI, 9, .inl g6)), (h9, .inl (cI, 9, .inl g7))]) [0, 1, 2, 3, 4, 5, 6, 7] (by decide) rfl
      exact W.vret hx hb hr (fun t ht hW => ⟨⟨(), rfl, trivial, ⟨x_309, x_310, f_306, f_307, f_308, (rg_mono hx_309 (by decide) (by decide)), kl49_310_0, by rw [ht]; exact hP9, hD9⟩⟩, hS.F ht⟩) hS.2.2 dX0_walk_111
    · skip
      have h_344 : rg (0) (8) x_305 := by have ha := hx_305; have hb_ := (rg_k (x := 9) (c := 9) (by decide)); simp only [rg, fa_lt, fa_le, fa_eq, (by decide : (9 : Int32).toInt = 9)] at ha hb_ c_342; simp only [rg]; omega
      refine lv_iload hx hb dX0_walk_56 (lv_at hl 1 rfl) ?_
      refine lv_iload hx hb dX0_walk_58 (lv_at hl 0 rfl) ?_
      refine lv_ishr hx hb dX0_walk_60 ?_
      refine lv_topi (fun x_345 ex_345 => ?_)
      have hx_345 : rg (0) (511) x_345 := by rw [ex_345]; exact rg_mono (rg_shr (b := 511) (rg_mono hx_9 (by decide) (by decide))) (by decide) (by decide)
      have kx_345_0 : rg 1 2147483647 x_345 → rg 1 (511) x_9 := fun hq => rg_shrP hx_9 (ex_345 ▸ hq)
      refine lv_iconst (v := 1) hx hb dX0_walk_61 (by decide) ?_
      refine lv_iand hx hb dX0_walk_62 ?_
      refine lv_topi (fun x_346 ex_346 => ?_)
      have hx_346 : rg (0) (1) x_346 := by rw [ex_346]; exact rg_mono (rg_andr (b := 1) (rg_mono (rg_k (x := 1) (c := 1) (by decide)) (by decide) (by decide))) (by decide) (by decide)
      have kx_346_0 : rg 1 2147483647 x_346 → rg 1 (511) x_345 := fun hq => rg_andP hx_345 (ex_346 ▸ hq)
      refine lv_iconst (v := 1) hx hb dX0_walk_63 (by decide) ?_
      refine lv_icmp_ne (tgt := 105) hx hb dX0_walk_64 (by decide) (fun c_347 => ?_) (fun c_347 => ?_)
      · skip
        have h_348 : rg (0) (0) x_346 := by have ha := hx_346; have hb_ := (rg_k (x := 1) (c := 1) (by decide)); simp only [rg, fa_lt, fa_le, fa_eq, (by decide : (1 : Int32).toInt = 1)] at ha hb_ c_347; simp only [rg]; omega
        obtain ⟨x_349, ex_349⟩ : ∃ y : Int32, y = x_305 + Int32.ofInt (1) := ⟨_, rfl⟩
        have hx_349 : rg (1) (9) x_349 := by rw [ex_349]; exact rg_mono (rg_add h_344 (rg_k (x := Int32.ofInt (1)) (c := 1) (by decide)) (by decide) (by decide)) (by decide) (by decide)
        have qx_349 : x_349.toInt = x_305.toInt + (1) := by rw [ex_349]; exact rg_addE h_344 (rg_k (x := Int32.ofInt (1)) (c := 1) (by decide)) (by decide) (by decide) (by decide)
        refine lv_iinc (v := x_349) (lv' := [(8, .int x_349), (7, .int x_9), (6, .int 4), (0, .ref h0), (1, .ref h7), (2, .int p1), (3, .int p2), (4, .int p3), (5, .int p4)]) hx hb dX0_walk_105 hl (k := 0) rfl (ex_349.symm) (by decide) rfl (fun ls hl => ?_)
        clear ex_349
        refine lv_goto (tgt := 49) hx hb dX0_walk_108 (by decide) ?_
        exact ih_341 (x_349, f_306, f_307, f_308, x_309, x_310) H locs ls ⟨hP.sub (ws' := [(h0, .inr (0, [.ref h1, .ref h2, .ref h3, .ref h4, .ref h5, .ref h6, .int x_309, .int a1, .int a2, .int x_310])), (h1, .inl (cI, 2520, .inl f_306)), (h2, .inl (cI, 2520, .inl f_307)), (h4, .inl (cI, 4096, .inl f_308)), (h5, .inl (cI, 81, .inl g4)), (h7, .inr (7, [.ref h8, .ref h9, .ref h10, .ref h11, .ref h12, .ref h13, .int a4, .int a5, .int a6, .int a7, .int a8, .int a9, .int a10, .int a11])), (h8, .inl (cI, 9, .inl g6)), (h9, .inl (cI, 9, .inl g7))]) [0, 1, 2, 3, 4, 5, 6, 7] rfl, hD.sub (ws' := [(h0, .inr (0, [.ref h1, .ref h2, .ref h3, .ref h4, .ref h5, .ref h6, .int x_309, .int a1, .int a2, .int x_310])), (h1, .inl (cI, 2520, .inl f_306)), (h2, .inl (cI, 2520, .inl f_307)), (h4, .inl (cI, 4096, .inl f_308)), (h5, .inl (cI, 81, .inl g4)), (h7, .inr (7, [.ref h8, .ref h9, .ref h10, .ref h11, .ref h12, .ref h13, .int a4, .int a5, .int a6, .int a7, .int a8, .int a9, .int a10, .int a11])), (h8, .inl (cI, 9, .inl g6)), (h9, .inl (cI, 9, .inl g7))]) [0, 1, 2, 3, 4, 5, 6, 7] (by decide) rfl, hS, lv_sub hl [0, 1, 2, 3, 4, 5, 6, 7, 8] rfl, (rg_mono hx_349 (by decide) (by decide)), (rg_mono hx_309 (by decide) (by decide)), kl49_310_0⟩ (by show ((9) - x_349.toInt).toNat < ((9) - x_305.toInt).toNat; have ha := h_344; simp only [rg] at ha; omega)
      · skip
        have h_350 : rg (1) (1) x_346 := by have ha := hx_346; have hb_ := (rg_k (x := 1) (c := 1) (by decide)); simp only [rg, fa_lt, fa_le, fa_eq, (by decide : (1 : Int32).toInt = 1)] at ha hb_ c_347; simp only [rg]; omega
        have h_351 : rg (1) (511) x_345 := rg_meet hx_345 (kx_346_0 (rg_mono h_350 (by decide) (by decide))) (by decide) (by decide)
        have h_352 : rg (1) (511) x_9 := rg_meet hx_9 (kx_345_0 (rg_mono h_351 (by decide) (by decide))) (by decide) (by decide)
        have h_353 : rg (1) (511) x_7 := rg_meet hx_7 (kx_9_0 (rg_mono h_352 (by decide) (by decide))) (by decide) (by decide)
        have h_354 : rg (1) (511) x_5 := rg_meet hx_5 (kx_7_0 (rg_mono h_353 (by decide) (by decide))) (by decide) (by decide)
        have h_355 : rg (1) (511) x_6 := rg_meet hx_6 (kx_7_1 (rg_mono h_353 (by decide) (by decide))) (by decide) (by decide)
        refine lv_aload_n hx hb dX0_walk_67 rfl (lv_at hl 3 rfl) ?_
        refine lv_aload_n hx hb dX0_walk_68 rfl (lv_at hl 4 rfl) ?_
        refine lv_iload_n hx hb dX0_walk_69 rfl (lv_at hl 5 rfl) ?_
        refine lv_iconst (v := 1) hx hb dX0_walk_70 (by decide) ?_
        refine lv_iload hx hb dX0_walk_71 (lv_at hl 0 rfl) ?_
        refine lv_ishl hx hb dX0_walk_73 ?_
        refine lv_topi (fun x_356 ex_356 => ?_)
        have hx_356 : rg (1) (256) x_356 := by rw [ex_356]; exact rg_mono (rg_shl1 8 (rg_mono h_344 (by decide) (by decide)) (by decide)) (by decide) (by decide)
        refine lv_ior hx hb dX0_walk_74 ?_
        refine lv_topi (fun x_357 ex_357 => ?_)
        have hx_357 : rg (0) (511) x_357 := by rw [ex_357]; exact rg_mono (rg_or 9 (rg_mono hp1 (by decide) (by decide)) (rg_mono hx_356 (by decide) (by decide)) (by decide)) (by decide) (by decide)
        refine lv_iload hx hb dX0_walk_75 (lv_at hl 0 rfl) ?_
        refine lv_iload hx hb dX0_walk_77 (lv_at hl 7 rfl) ?_
        refine lv_aload_n hx hb dX0_walk_79 rfl (lv_at hl 3 rfl) ?_
        refine va_get (D := (dC, dI)) (ci := 0) (v := .ref h5) (C := RX0) (T := TX0) (N := 10) hx hb hts hinX0 hown hK hP 0 rfl rfl 4 (by decide) (hts (.fieldLink RX0 24 "MayRings$Families" "bits" "[I") (List.mem_of_getElem? (i := 7) rfl)) (fun _ h9 => h9) rfl dX0_walk_80 ?_
        refine lv_iload_n hx hb dX0_walk_83 rfl (lv_at hl 6 rfl) ?_
        refine lv_bipush (v := 9) hx hb dX0_walk_84 (by decide) ?_
        refine lv_imul hx hb dX0_walk_86 ?_
        refine lv_topi (fun x_358 ex_358 => ?_)
        have hx_358 : rg (0) (72) x_358 := by rw [ex_358]; exact rg_mono (rg_mul hp2 (rg_k (x := 9) (c := 9) (by decide)) (by decide) (by decide) (by decide)) (by decide) (by decide)
        refine lv_iload hx hb dX0_walk_87 (lv_at hl 0 rfl) ?_
        refine lv_iadd hx hb dX0_walk_89 ?_
        refine lv_topi (fun x_359 ex_359 => ?_)
        have hx_359 : rg (0) (80) x_359 := by rw [ex_359]; exact rg_mono (rg_add hx_358 h_344 (by decide) (by decide)) (by decide) (by decide)
        have qx_359 : x_359.toInt = x_358.toInt + x_305.toInt := by rw [ex_359]; exact rg_addQ hx_358 h_344 (by decide) (by decide)
        refine va_iald hx hb hK hP 4 1 rfl rfl (rg_in (n := 81) (rg_mono hx_359 (by decide) (by decide))) dX0_walk_90 ?_
        refine lv_topi (fun x_360 ex_360 => ?_)
        refine lv_ior hx hb dX0_walk_91 ?_
        refine lv_topi (fun x_361 ex_361 => ?_)
        refine lv_iload hx hb dX0_walk_92 (lv_at hl 8 rfl) ?_
        refine lv_iload hx hb dX0_walk_94 (lv_at hl 0 rfl) ?_
        refine lv_iconst (v := 4) hx hb dX0_walk_96 (by decide) ?_
        refine lv_iload hx hb dX0_walk_97 (lv_at hl 2 rfl) ?_
        refine lv_imul hx hb dX0_walk_99 ?_
        refine tp_v (.int 16) (congrArg Value.int (by decide)) ?_
        refine lv_ishl hx hb dX0_walk_100 ?_
        refine lv_topi (fun x_362 ex_362 => ?_)
        refine lv_ior hx hb dX0_walk_101 ?_
        refine lv_topi (fun x_363 ex_363 => ?_)
        have hPc := hP.sub (ws' := [(h0, .inr (0, [.ref h1, .ref h2, .ref h3, .ref h4, .ref h5, .ref h6, .int x_309, .int a1, .int a2, .int x_310])), (h1, .inl (cI, 2520, .inl f_306)), (h2, .inl (cI, 2520, .inl f_307)), (h4, .inl (cI, 4096, .inl f_308)), (h5, .inl (cI, 81, .inl g4)), (h7, .inr (7, [.ref h8, .ref h9, .ref h10, .ref h11, .ref h12, .ref h13, .int a4, .int a5, .int a6, .int a7, .int a8, .int a9, .int a10, .int a11])), (h8, .inl (cI, 9, .inl g6)), (h9, .inl (cI, 9, .inl g7))]) [0, 1, 2, 3, 4, 5, 6, 7] rfl
        have hDc := hD.sub (ws' := [(h0, .inr (0, [.ref h1, .ref h2, .ref h3, .ref h4, .ref h5, .ref h6, .int x_309, .int a1, .int a2, .int x_310])), (h1, .inl (cI, 2520, .inl f_306)), (h2, .inl (cI, 2520, .inl f_307)), (h4, .inl (cI, 4096, .inl f_308)), (h5, .inl (cI, 81, .inl g4)), (h7, .inr (7, [.ref h8, .ref h9, .ref h10, .ref h11, .ref h12, .ref h13, .int a4, .int a5, .int a6, .int a7, .int a8, .int a9, .int a10, .int a11])), (h8, .inl (cI, 9, .inl g6)), (h9, .inl (cI, 9, .inl g7))]) [0, 1, 2, 3, 4, 5, 6, 7] (by decide) rfl
        have hFc := va_free (wc := [(h0, .inr (0, [.ref h1, .ref h2, .ref h3, .ref h4, .ref h5, .ref h6, .int x_309, .int a1, .int a2, .int x_310])), (h1, .inl (cI, 2520, .inl f_306)), (h2, .inl (cI, 2520, .inl f_307)), (h4, .inl (cI, 4096, .inl f_308)), (h5, .inl (cI, 81, .inl g4)), (h7, .inr (7, [.ref h8, .ref h9, .ref h10, .ref h11, .ref h12, .ref h13, .int a4, .int a5, .int a6, .int a7, .int a8, .int a9, .int a10, .int a11])), (h8, .inl (cI, 9, .inl g6)), (h9, .inl (cI, 9, .inl g7))]) hD hS hA [0, 1, 2, 3, 4, 5, 6, 7] rfl
        refine va_callv (va_runV (As := [.ref h7, .int x_357, .int x_305, .int x_361, .int x_363]) (rest := []) ⟨hx, hb, hml, hown, hts⟩ (c_s_X0_walk_k5 l dC dI cB cI cJ cZ cP h0 h1 f_306 h2 f_307 h3 h4 f_308 h5 g4 h6 x_309 (rg_mono hx_309 (by decide) (by decide)) a1 a2 (rg_mono h_4 (by decide) (by decide)) x_310 h7 h8 g6 hg6 h9 g7 hg7 h10 h11 h12 h13 a4 a5 a6 (rg_mono ha6 (by decide) (by decide)) a7 a8 a9 a10 a11 x_357 (rg_mono hx_357 (by decide) (by decide)) x_305 (rg_mono h_344 (by decide) (by decide)) x_361 x_363 kl49_310_0 (show bcE x_357 = 5 from (by rw [ex_357, ex_356]; exact bc_step (rg_mono hp1 (by decide) (by decide)) (rg_mono h_344 (by decide) (by decide)) (ex_9.trans (by rw [ex_8])) (by rw [← ex_345, ← ex_346]; exact c_347) kr1 (by decide))) (show nbk 5 x_363 from (by rw [ex_363, ex_362]; exact nbk_step 4 kr2 (rg_mono h_344 (by decide) (by decide)) (by decide) (by decide))) H.size) (cwV 5 hts (gd_V (List.mem_of_getElem? (i := 8) rfl) (List.mem_of_getElem? (i := 9) rfl) (List.mem_of_getElem? (i := 10) rfl) (List.mem_of_getElem? (i := 11) rfl) (gd_mono k_s_X0_walk_k5 (fun _ h => List.mem_cons_of_mem _ (List.mem_append_right _ (List.mem_append_right _ (List.mem_append_right _ (List.mem_append_right _ (List.mem_append_left _ h)))))))) rfl rfl rfl (by decide +kernel) ⟨Nat.le_of_ble_eq_true rfl, Nat.le_of_ble_eq_true rfl⟩) ⟨fun a U g mk q => by obtain ⟨q0, q1, qP, qK, qD⟩ := q; exact ⟨q0, q1, qP, va_K.moved (u := U) (U := U.calling g mk a) (Vm.Alike.refl U.vm) qK, qD⟩, va_recv hK hPc (ci := 0) (q0 := 0) rfl rfl, fun U hU hW => ⟨rfl, by rw [hU], by rw [hU]; exact hPc, va_K.moved hW.alike hK, hDc.weaken (fun _ _ _ _ => trivial)⟩⟩ rfl rfl hl.1 rfl (lv_room (Nat.le_of_ble_eq_true rfl)) dX0_walk_102 ⟨Nat.le_of_ble_eq_true rfl, Nat.le_of_ble_eq_true rfl⟩) hS (fun q _ h => hFc q h) hFc (fun u t H1 locs ht hvm hw hB hz1 hk1 hS => ?_)
        obtain ⟨x_365, x_366, f_367, f_368, f_369, hx_365, k_370, hP1, hD1⟩ := hB
        rw [ht] at hP1
        obtain ⟨hP, hD⟩ := va_join (wr := []) (w1 := [(h0, .inr (0, [.ref h1, .ref h2, .ref h3, .ref h4, .ref h5, .ref h6, .int x_365, .int a1, .int a2, .int x_366])), (h1, .inl (cI, 2520, .inl f_367)), (h2, .inl (cI, 2520, .inl f_368)), (h4, .inl (cI, 4096, .inl f_369)), (h5, .inl (cI, 81, .inl g4)), (h7, .inr (7, [.ref h8, .ref h9, .ref h10, .ref h11, .ref h12, .ref h13, .int a4, .int a5, .int a6, .int a7, .int a8, .int a9, .int a10, .int a11])), (h8, .inl (cI, 9, .inl g6)), (h9, .inl (cI, 9, .inl g7))]) hP hD [0, 1, 2, 3, 4, 5, 6, 7] [] rfl rfl (by decide) (by decide) hk1 hFc hP1 hD1
        generalize H1 = H at hP hS ⊢
        replace hP : va_P (dC, dI) vwCl [(h0, .inr (0, [.ref h1, .ref h2, .ref h3, .ref h4, .ref h5, .ref h6, .int x_365, .int a1, .int a2, .int x_366])), (h1, .inl (cI, 2520, .inl f_367)), (h2, .inl (cI, 2520, .inl f_368)), (h4, .inl (cI, 4096, .inl f_369)), (h5, .inl (cI, 81, .inl g4)), (h7, .inr (7, [.ref h8, .ref h9, .ref h10, .ref h11, .ref h12, .ref h13, .int a4, .int a5, .int a6, .int a7, .int a8, .int a9, .int a10, .int a11])), (h8, .inl (cI, 9, .inl g6)), (h9, .inl (cI, 9, .inl g7))] H := hP
        replace hD : va_D A [(h0, .inr (0, [.ref h1, .ref h2, .ref h3, .ref h4, .ref h5, .ref h6, .int x_365, .int a1, .int a2, .int x_366])), (h1, .inl (cI, 2520, .inl f_367)), (h2, .inl (cI, 2520, .inl f_368)), (h4, .inl (cI, 4096, .inl f_369)), (h5, .inl (cI, 81, .inl g4)), (h7, .inr (7, [.ref h8, .ref h9, .ref h10, .ref h11, .ref h12, .ref h13, .int a4, .int a5, .int a6, .int a7, .int a8, .int a9, .int a10, .int a11])), (h8, .inl (cI, 9, .inl g6)), (h9, .inl (cI, 9, .inl g7))] := hD
        obtain ⟨x_371, ex_371⟩ : ∃ y : Int32, y = x_305 + Int32.ofInt (1) := ⟨_, rfl⟩
        have hx_371 : rg (1) (9) x_371 := by rw [ex_371]; exact rg_mono (rg_add h_344 (rg_k (x := Int32.ofInt (1)) (c := 1) (by decide)) (by decide) (by decide)) (by decide) (by decide)
        have qx_371 : x_371.toInt = x_305.toInt + (1) := by rw [ex_371]; exact rg_addE h_344 (rg_k (x := Int32.ofInt (1)) (c := 1) (by decide)) (by decide) (by decide) (by decide)
        refine lv_iinc (v := x_371) (lv' := [(8, .int x_371), (7, .int x_9), (6, .int 4), (0, .ref h0), (1, .ref h7), (2, .int p1), (3, .int p2), (4, .int p3), (5, .int p4)]) hx hb dX0_walk_105 hl (k := 0) rfl (ex_371.symm) (by decide) rfl (fun ls hl => ?_)
        clear ex_371
        refine lv_goto (tgt := 49) hx hb dX0_walk_108 (by decide) ?_
        exact ih_341 (x_371, f_367, f_368, f_369, x_365, x_366) H locs ls ⟨hP.sub (ws' := [(h0, .inr (0, [.ref h1, .ref h2, .ref h3, .ref h4, .ref h5, .ref h6, .int x_365, .int a1, .int a2, .int x_366])), (h1, .inl (cI, 2520, .inl f_367)), (h2, .inl (cI, 2520, .inl f_368)), (h4, .inl (cI, 4096, .inl f_369)), (h5, .inl (cI, 81, .inl g4)), (h7, .inr (7, [.ref h8, .ref h9, .ref h10, .ref h11, .ref h12, .ref h13, .int a4, .int a5, .int a6, .int a7, .int a8, .int a9, .int a10, .int a11])), (h8, .inl (cI, 9, .inl g6)), (h9, .inl (cI, 9, .inl g7))]) [0, 1, 2, 3, 4, 5, 6, 7] rfl, hD.sub (ws' := [(h0, .inr (0, [.ref h1, .ref h2, .ref h3, .ref h4, .ref h5, .ref h6, .int x_365, .int a1, .int a2, .int x_366])), (h1, .inl (cI, 2520, .inl f_367)), (h2, .inl (cI, 2520, .inl f_368)), (h4, .inl (cI, 4096, .inl f_369)), (h5, .inl (cI, 81, .inl g4)), (h7, .inr (7, [.ref h8, .ref h9, .ref h10, .ref h11, .ref h12, .ref h13, .int a4, .int a5, .int a6, .int a7, .int a8, .int a9, .int a10, .int a11])), (h8, .inl (cI, 9, .inl g6)), (h9, .inl (cI, 9, .inl g7))]) [0, 1, 2, 3, 4, 5, 6, 7] (by decide) rfl, hS, lv_sub hl [0, 1, 2, 3, 4, 5, 6, 7, 8] rfl, (rg_mono hx_371 (by decide) (by decide)), (rg_mono hx_365 (by decide) (by decide)), k_370⟩ (by show ((9) - x_371.toInt).toNat < ((9) - x_305.toInt).toNat; have ha := h_344; simp only [rg] at ha; omega)
  · skip
    have h_372 : rg (1) (4) a2 := by have ha := (rg_k (x := 4) (c := 4) (by decide)); have hb_ := ha2; simp only [rg, fa_lt, fa_le, fa_eq, (by decide : (4 : Int32).toInt = 4)] at ha hb_ c_3; simp only [rg]; omega
    refine lv_aload_n hx hb dX0_walk_15 rfl (lv_at hl 1 rfl) ?_
    refine lv_aload_n hx hb dX0_walk_16 rfl (lv_at hl 2 rfl) ?_
    refine lv_iload_n hx hb dX0_walk_17 rfl (lv_at hl 4 rfl) ?_
    refine lv_iload hx hb dX0_walk_18 (lv_at hl 5 rfl) ?_
    refine lv_iload hx hb dX0_walk_20 (lv_at hl 6 rfl) ?_
    have hPc := hP.sub (ws' := [(h0, .inr (0, [.ref h1, .ref h2, .ref h3, .ref h4, .ref h5, .ref h6, .int a0, .int a1, .int a2, .int a3])), (h1, .inl (cI, 2520, .inl g0)), (h2, .inl (cI, 2520, .inl g1)), (h4, .inl (cI, 4096, .inl g3)), (h5, .inl (cI, 81, .inl g4)), (h7, .inr (7, [.ref h8, .ref h9, .ref h10, .ref h11, .ref h12, .ref h13, .int a4, .int a5, .int a6, .int a7, .int a8, .int a9, .int a10, .int a11])), (h9, .inl (cI, 9, .inl g7))]) [0, 1, 2, 3, 4, 5, 7] rfl
    have hDc := hD.sub (ws' := [(h0, .inr (0, [.ref h1, .ref h2, .ref h3, .ref h4, .ref h5, .ref h6, .int a0, .int a1, .int a2, .int a3])), (h1, .inl (cI, 2520, .inl g0)), (h2, .inl (cI, 2520, .inl g1)), (h4, .inl (cI, 4096, .inl g3)), (h5, .inl (cI, 81, .inl g4)), (h7, .inr (7, [.ref h8, .ref h9, .ref h10, .ref h11, .ref h12, .ref h13, .int a4, .int a5, .int a6, .int a7, .int a8, .int a9, .int a10, .int a11])), (h9, .inl (cI, 9, .inl g7))]) [0, 1, 2, 3, 4, 5, 7] (by decide) rfl
    have hFc := va_free (wc := [(h0, .inr (0, [.ref h1, .ref h2, .ref h3, .ref h4, .ref h5, .ref h6, .int a0, .int a1, .int a2, .int a3])), (h1, .inl (cI, 2520, .inl g0)), (h2, .inl (cI, 2520, .inl g1)), (h4, .inl (cI, 4096, .inl g3)), (h5, .inl (cI, 81, .inl g4)), (h7, .inr (7, [.ref h8, .ref h9, .ref h10, .ref h11, .ref h12, .ref h13, .int a4, .int a5, .int a6, .int a7, .int a8, .int a9, .int a10, .int a11])), (h9, .inl (cI, 9, .inl g7))]) hD hS hA [0, 1, 2, 3, 4, 5, 7] rfl
    refine va_callv (va_runV (As := [.ref h7, .int p2, .int p3, .int p4]) (rest := []) ⟨hx, hb, hml, hown, hts⟩ (c_s_X0_close l dC dI cB cI cJ cZ cP h0 h1 g0 h2 g1 h3 h4 g3 h5 g4 h6 a0 (rg_mono ha0 (by decide) (by decide)) a1 a2 a3 h7 h8 h9 g7 hg7 h10 h11 h12 h13 a4 a5 a6 (rg_mono ha6 (by decide) (by decide)) a7 a8 a9 a10 a11 p2 (rg_mono hp2 (by decide) (by decide)) p3 p4 kr0 (show nb p4 from nb_of kr2) H.size) (cwV 4 hts (gd_V (List.mem_of_getElem? (i := 12) rfl) (List.mem_of_getElem? (i := 13) rfl) (List.mem_of_getElem? (i := 14) rfl) (List.mem_of_getElem? (i := 11) rfl) (gd_mono k_s_X0_close (fun _ h => List.mem_cons_of_mem _ (List.mem_append_right _ (List.mem_append_right _ (List.mem_append_right _ (List.mem_append_right _ (List.mem_append_right _ (List.mem_append_left _ h))))))))) rfl rfl rfl (by decide +kernel) ⟨Nat.le_of_ble_eq_true rfl, Nat.le_of_ble_eq_true rfl⟩) ⟨fun a U g mk q => by obtain ⟨q0, q1, qP, qK, qD⟩ := q; exact ⟨q0, q1, qP, va_K.moved (u := U) (U := U.calling g mk a) (Vm.Alike.refl U.vm) qK, qD⟩, va_recv hK hPc (ci := 0) (q0 := 0) rfl rfl, fun U hU hW => ⟨rfl, by rw [hU], by rw [hU]; exact hPc, va_K.moved hW.alike hK, hDc.weaken (fun _ _ _ _ => trivial)⟩⟩ rfl rfl hl.1 rfl (lv_room (Nat.le_of_ble_eq_true rfl)) dX0_walk_22 ⟨Nat.le_of_ble_eq_true rfl, Nat.le_of_ble_eq_true rfl⟩) hS (fun q _ h => hFc q h) hFc (fun u t H1 locs ht hvm hw hB hz1 hk1 hS => ?_)
    obtain ⟨x_374, x_375, f_376, f_377, f_378, hx_374, k_379, hP1, hD1⟩ := hB
    rw [ht] at hP1
    obtain ⟨hP, hD⟩ := va_join (wr := [(h8, .inl (cI, 9, .inl g6))]) (w1 := [(h0, .inr (0, [.ref h1, .ref h2, .ref h3, .ref h4, .ref h5, .ref h6, .int x_374, .int a1, .int a2, .int x_375])), (h1, .inl (cI, 2520, .inl f_376)), (h2, .inl (cI, 2520, .inl f_377)), (h4, .inl (cI, 4096, .inl f_378)), (h5, .inl (cI, 81, .inl g4)), (h7, .inr (7, [.ref h8, .ref h9, .ref h10, .ref h11, .ref h12, .ref h13, .int a4, .int a5, .int a6, .int a7, .int a8, .int a9, .int a10, .int a11])), (h9, .inl (cI, 9, .inl g7))]) hP hD [0, 1, 2, 3, 4, 5, 7] [6] rfl rfl (by decide) (by decide) hk1 hFc hP1 hD1
    generalize H1 = H at hP hS ⊢
    replace hP : va_P (dC, dI) vwCl [(h8, .inl (cI, 9, .inl g6)), (h0, .inr (0, [.ref h1, .ref h2, .ref h3, .ref h4, .ref h5, .ref h6, .int x_374, .int a1, .int a2, .int x_375])), (h1, .inl (cI, 2520, .inl f_376)), (h2, .inl (cI, 2520, .inl f_377)), (h4, .inl (cI, 4096, .inl f_378)), (h5, .inl (cI, 81, .inl g4)), (h7, .inr (7, [.ref h8, .ref h9, .ref h10, .ref h11, .ref h12, .ref h13, .int a4, .int a5, .int a6, .int a7, .int a8, .int a9, .int a10, .int a11])), (h9, .inl (cI, 9, .inl g7))] H := hP
    replace hD : va_D A [(h8, .inl (cI, 9, .inl g6)), (h0, .inr (0, [.ref h1, .ref h2, .ref h3, .ref h4, .ref h5, .ref h6, .int x_374, .int a1, .int a2, .int x_375])), (h1, .inl (cI, 2520, .inl f_376)), (h2, .inl (cI, 2520, .inl f_377)), (h4, .inl (cI, 4096, .inl f_378)), (h5, .inl (cI, 81, .inl g4)), (h7, .inr (7, [.ref h8, .ref h9, .ref h10, .ref h11, .ref h12, .ref h13, .int a4, .int a5, .int a6, .int a7, .int a8, .int a9, .int a10, .int a11])), (h9, .inl (cI, 9, .inl g7))] := hD
    have hP9 := hP.sub (ws' := [(h0, .inr (0, [.ref h1, .ref h2, .ref h3, .ref h4, .ref h5, .ref h6, .int x_374, .int a1, .int a2, .int x_375])), (h1, .inl (cI, 2520, .inl f_376)), (h2, .inl (cI, 2520, .inl f_377)), (h4, .inl (cI, 4096, .inl f_378)), (h5, .inl (cI, 81, .inl g4)), (h7, .inr (7, [.ref h8, .ref h9, .ref h10, .ref h11, .ref h12, .ref h13, .int a4, .int a5, .int a6, .int a7, .int a8, .int a9, .int a10, .int a11])), (h8, .inl (cI, 9, .inl g6)), (h9, .inl (cI, 9, .inl g7))]) [1, 2, 3, 4, 5, 6, 0, 7] rfl
    have hD9 := hD.sub (ws' := [(h0, .inr (0, [.ref h1, .ref h2, .ref h3, .ref h4, .ref h5, .ref h6, .int x_374, .int a1, .int a2, .int x_375])), (h1, .inl (cI, 2520, .inl f_376)), (h2, .inl (cI, 2520, .inl f_377)), (h4, .inl (cI, 4096, .inl f_378)), (h5, .inl (cI, 81, .inl g4)), (h7, .inr (7, [.ref h8, .ref h9, .ref h10, .ref h11, .ref h12, .ref h13, .int a4, .int a5, .int a6, .int a7, .int a8, .int a9, .int a10, .int a11])), (h8, .inl (cI, 9, .inl g6)), (h9, .inl (cI, 9, .inl g7))]) [1, 2, 3, 4, 5, 6, 0, 7] (by decide) rfl
    exact W.vret hx hb hr (fun t ht hW => ⟨⟨(), rfl, trivial, ⟨x_374, x_375, f_376, f_377, f_378, (rg_mono hx_374 (by decide) (by decide)), k_379, by rw [ht]; exact hP9, hD9⟩⟩, hS.F ht⟩) hS.2.2 dX0_walk_25
def v_s_X0_walk_k3 : List Cond := Cond.code yX0_walk cX0_walk 9 none :: ([Cond.methodLink RX0 81 yJ6_bitCount_0f7a4, Cond.static yJ6_bitCount_0f7a4, Cond.initialized RJ6, Cond.fieldLink RX0 37 "MayRings$Families" "size" "I", Cond.fieldLink RX0 67 "MayRings$Ways" "ground" "[I", Cond.fieldLink RX0 78 "MayRings$Ways" "pairs" "[I", Cond.fieldLink RX0 24 "MayRings$Families" "bits" "[I", Cond.methodLink RX0 70 yX0_walk, Cond.instanceMethod yX0_walk, Cond.selects RX0 yX0_walk yX0_walk, Cond.initialized RX0, Cond.methodLink RX0 87 yX0_close, Cond.instanceMethod yX0_close, Cond.selects RX0 yX0_close yX0_close] ++ (wsX00 ++ (wsX70 ++ (v_s_J6_bitCount_0f7a4_b9 ++ (v_s_X0_walk_k4 ++ (v_s_X0_close ++ ([])))))))
theorem k_s_X0_walk_k3 : GoodIn lw_tbl v_s_X0_walk_k3 := gd_c (List.mem_of_getElem? (i := 1051) (by decide +kernel)) rfl (goodIn_app (gd_c (List.mem_of_getElem? (i := 1052) (by decide +kernel)) rfl (gd_c (List.mem_of_getElem? (i := 878) (by decide +kernel)) rfl (gd_c (List.mem_of_getElem? (i := 147) (by decide +kernel)) rfl (gd_c (List.mem_of_getElem? (i := 508) (by decide +kernel)) rfl (gd_c (List.mem_of_getElem? (i := 441) (by decide +kernel)) rfl (gd_c (List.mem_of_getElem? (i := 444) (by decide +kernel)) rfl (gd_c (List.mem_of_getElem? (i := 504) (by decide +kernel)) rfl (gd_c (List.mem_of_getElem? (i := 1048) (by decide +kernel)) rfl (gd_c (List.mem_of_getElem? (i := 1050) (by decide +kernel)) rfl (gd_c (List.mem_of_getElem? (i := 56) (by decide +kernel)) rfl (gd_c (List.mem_of_getElem? (i := 143) (by decide +kernel)) rfl (gd_c (List.mem_of_getElem? (i := 1053) (by decide +kernel)) rfl (gd_c (List.mem_of_getElem? (i := 1055) (by decide +kernel)) rfl (gd_c (List.mem_of_getElem? (i := 57) (by decide +kernel)) rfl (gd_nil))))))))))))))) (goodIn_app kfX0 (goodIn_app kfX7 (goodIn_app k_s_J6_bitCount_0f7a4_b9 (goodIn_app k_s_X0_walk_k4 (goodIn_app k_s_X0_close (gd_nil)))))))
set_option maxHeartbeats 2000000 in
set_option maxRecDepth 100000 in
theorem c_s_X0_walk_k3 (l : Launch) (dC : Nat → ClassId) (dI : Nat → Nat → Nat) (cB cI cJ cZ cP : ClassId) (h0 : Nat) (h1 : Nat) (g0 : Nat → Int32) (h2 : Nat) (g1 : Nat → Int32) (h3 : Nat) (h4 : Nat) (g3 : Nat → Int32) (h5 : Nat) (g4 : Nat → Int32) (h6 : Nat) (a0 : Int32) (ha0 : rg (0) (2520) a0) (a1 : Int32) (a2 : Int32) (ha2 : rg (1) (7) a2) (a3 : Int32) (h7 : Nat) (h8 : Nat) (g6 : Nat → Int32) (hg6 : rgA (0) (511) g6) (h9 : Nat) (g7 : Nat → Int32) (hg7 : rgA (0) (511) g7) (h10 : Nat) (h11 : Nat) (h12 : Nat) (h13 : Nat) (a4 : Int32) (a5 : Int32) (a6 : Int32) (ha6 : rg (0) (1) a6) (a7 : Int32) (a8 : Int32) (a9 : Int32) (a10 : Int32) (a11 : Int32) (p1 : Int32) (hp1 : rg (0) (511) p1) (p2 : Int32) (hp2 : rg (0) (8) p2) (p3 : Int32) (p4 : Int32) (kr0 : nbA g1) (kr1 : bcE p1 = 3) (kr2 : nbk 3 p4) (sz : Nat) : Met l yX0_walk v_s_X0_walk_k3 ({ frames := 6, cells := 0, slots := 0, locals := 161 }) (va_Pc [.ref h0, .ref h7, .int p1, .int p2, .int p3, .int p4] (fun U => U.heap.size = sz ∧ va_P (dC, dI) vwCl [(h0, .inr (0, [.ref h1, .ref h2, .ref h3, .ref h4, .ref h5, .ref h6, .int a0, .int a1, .int a2, .int a3])), (h1, .inl (cI, 2520, .inl g0)), (h2, .inl (cI, 2520, .inl g1)), (h4, .inl (cI, 4096, .inl g3)), (h5, .inl (cI, 81, .inl g4)), (h7, .inr (7, [.ref h8, .ref h9, .ref h10, .ref h11, .ref h12, .ref h13, .int a4, .int a5, .int a6, .int a7, .int a8, .int a9, .int a10, .int a11])), (h8, .inl (cI, 9, .inl g6)), (h9, .inl (cI, 9, .inl g7))] U.heap ∧ va_K (dC, dI) vwCl (ty5 cB cI cJ cZ cP) U ∧ va_D (fun _ => True) [(h0, .inr (0, [.ref h1, .ref h2, .ref h3, .ref h4, .ref h5, .ref h6, .int a0, .int a1, .int a2, .int a3])), (h1, .inl (cI, 2520, .inl g0)), (h2, .inl (cI, 2520, .inl g1)), (h4, .inl (cI, 4096, .inl g3)), (h5, .inl (cI, 81, .inl g4)), (h7, .inr (7, [.ref h8, .ref h9, .ref h10, .ref h11, .ref h12, .ref h13, .int a4, .int a5, .int a6, .int a7, .int a8, .int a9, .int a10, .int a11])), (h8, .inl (cI, 9, .inl g6)), (h9, .inl (cI, 9, .inl g7))])) (va_Qv (fun _ : Unit => True) (fun _ t => ∃ (z0 : Int32) (z1 : Int32) (z2 : Nat → Int32) (z3 : Nat → Int32) (z4 : Nat → Int32), rg (0) (2520) z0 ∧ (nbA z3) ∧ va_P (dC, dI) vwCl [(h0, .inr (0, [.ref h1, .ref h2, .ref h3, .ref h4, .ref h5, .ref h6, .int z0, .int a1, .int a2, .int z1])), (h1, .inl (cI, 2520, .inl z2)), (h2, .inl (cI, 2520, .inl z3)), (h4, .inl (cI, 4096, .inl z4)), (h5, .inl (cI, 81, .inl g4)), (h7, .inr (7, [.ref h8, .ref h9, .ref h10, .ref h11, .ref h12, .ref h13, .int a4, .int a5, .int a6, .int a7, .int a8, .int a9, .int a10, .int a11])), (h8, .inl (cI, 9, .inl g6)), (h9, .inl (cI, 9, .inl g7))] t.heap ∧ va_D (va_A [(h0, .inr (0, [.ref h1, .ref h2, .ref h3, .ref h4, .ref h5, .ref h6, .int a0, .int a1, .int a2, .int a3])), (h1, .inl (cI, 2520, .inl g0)), (h2, .inl (cI, 2520, .inl g1)), (h4, .inl (cI, 4096, .inl g3)), (h5, .inl (cI, 81, .inl g4)), (h7, .inr (7, [.ref h8, .ref h9, .ref h10, .ref h11, .ref h12, .ref h13, .int a4, .int a5, .int a6, .int a7, .int a8, .int a9, .int a10, .int a11])), (h8, .inl (cI, 9, .inl g6)), (h9, .inl (cI, 9, .inl g7))] sz) [(h0, .inr (0, [.ref h1, .ref h2, .ref h3, .ref h4, .ref h5, .ref h6, .int z0, .int a1, .int a2, .int z1])), (h1, .inl (cI, 2520, .inl z2)), (h2, .inl (cI, 2520, .inl z3)), (h4, .inl (cI, 4096, .inl z4)), (h5, .inl (cI, 81, .inl g4)), (h7, .inr (7, [.ref h8, .ref h9, .ref h10, .ref h11, .ref h12, .ref h13, .int a4, .int a5, .int a6, .int a7, .int a8, .int a9, .int a10, .int a11])), (h8, .inl (cI, 9, .inl g6)), (h9, .inl (cI, 9, .inl g7))]) (va_A [(h0, .inr (0, [.ref h1, .ref h2, .ref h3, .ref h4, .ref h5, .ref h6, .int a0, .int a1, .int a2, .int a3])), (h1, .inl (cI, 2520, .inl g0)), (h2, .inl (cI, 2520, .inl g1)), (h4, .inl (cI, 4096, .inl g3)), (h5, .inl (cI, 81, .inl g4)), (h7, .inr (7, [.ref h8, .ref h9, .ref h10, .ref h11, .ref h12, .ref h13, .int a4, .int a5, .int a6, .int a7, .int a8, .int a9, .int a10, .int a11])), (h8, .inl (cI, 9, .inl g6)), (h9, .inl (cI, 9, .inl g7))] sz)) 0 0 (va_A [(h0, .inr (0, [.ref h1, .ref h2, .ref h3, .ref h4, .ref h5, .ref h6, .int a0, .int a1, .int a2, .int a3])), (h1, .inl (cI, 2520, .inl g0)), (h2, .inl (cI, 2520, .inl g1)), (h4, .inl (cI, 4096, .inl g3)), (h5, .inl (cI, 81, .inl g4)), (h7, .inr (7, [.ref h8, .ref h9, .ref h10, .ref h11, .ref h12, .ref h13, .int a4, .int a5, .int a6, .int a7, .int a8, .int a9, .int a10, .int a11])), (h8, .inl (cI, 9, .inl g6)), (h9, .inl (cI, 9, .inl g7))] sz) := by
  refine Met.ofW (cc := cX0_walk) (maxL := 9) (ret := none) (by decide) rfl ?_
  intro p e s m args below meth c s₁ B hml hv
  obtain ⟨rfl, hsz, hP, hK, hD0⟩ := hv
  have hx := B.exec
  have hb := B.bytes
  have hr := B.returns
  have hts := atoms_spec (ws := v_s_X0_walk_k3) B.pre
  have hown : s.vm.findClass RX0 = some m.cls := findClass_of_methodNamed B.named
  have hlocks := B.notSynchronized
  have hinX0 : ∀ w ∈ wsX00, w ∈ v_s_X0_walk_k3 := fun _ h => List.mem_cons_of_mem _ (List.mem_append_right _ (List.mem_append_left _ h))
  have hinX7 : ∀ w ∈ wsX70, w ∈ v_s_X0_walk_k3 := fun _ h => List.mem_cons_of_mem _ (List.mem_append_right _ (List.mem_append_right _ (List.mem_append_left _ h)))
  subst hsz
  have hD := hD0.self (sz := s.heap.size)
  generalize hAe : va_A [(h0, .inr (0, [.ref h1, .ref h2, .ref h3, .ref h4, .ref h5, .ref h6, .int a0, .int a1, .int a2, .int a3])), (h1, .inl (cI, 2520, .inl g0)), (h2, .inl (cI, 2520, .inl g1)), (h4, .inl (cI, 4096, .inl g3)), (h5, .inl (cI, 81, .inl g4)), (h7, .inr (7, [.ref h8, .ref h9, .ref h10, .ref h11, .ref h12, .ref h13, .int a4, .int a5, .int a6, .int a7, .int a8, .int a9, .int a10, .int a11])), (h8, .inl (cI, 9, .inl g6)), (h9, .inl (cI, 9, .inl g7))] s.heap.size = A at hD ⊢
  have hA : ∀ q : Nat, s.heap.size ≤ q → A q := fun q h => by rw [← hAe]; exact Or.inr h
  have hP : va_P (dC, dI) vwCl [(h0, .inr (0, [.ref h1, .ref h2, .ref h3, .ref h4, .ref h5, .ref h6, .int a0, .int a1, .int a2, .int a3])), (h1, .inl (cI, 2520, .inl g0)), (h2, .inl (cI, 2520, .inl g1)), (h4, .inl (cI, 4096, .inl g3)), (h5, .inl (cI, 81, .inl g4)), (h7, .inr (7, [.ref h8, .ref h9, .ref h10, .ref h11, .ref h12, .ref h13, .int a4, .int a5, .int a6, .int a7, .int a8, .int a9, .int a10, .int a11])), (h8, .inl (cI, 9, .inl g6)), (h9, .inl (cI, 9, .inl g7))] s.heap := hP
  have hl := lv_entry ([.ref h0, .ref h7, .int p1, .int p2, .int p3, .int p4]) (n := 9) (Nat.le_of_ble_eq_true rfl)
  rw [lg_entry_eq]
  generalize (lg_sl ([.ref h0, .ref h7, .int p1, .int p2, .int p3, .int p4]) ++ List.replicate (9 - (lg_sl ([.ref h0, .ref h7, .int p1, .int p2, .int p3, .int p4])).length) Slot.unset).toArray = ls at hl ⊢
  have hl : lv_has ls 9 [(0, .ref h0), (1, .ref h7), (2, .int p1), (3, .int p2), (4, .int p3), (5, .int p4)] := hl
  refine W_gen (A := A) hP (fun H locs hP hS => ?_)
  refine lv_iload_n hx hb dX0_walk_0 rfl (lv_at hl 2 rfl) ?_
  have hPc := hP.sub (ws' := []) [] rfl
  have hDc := hD.sub (ws' := []) [] (by decide) rfl
  have hFc := va_free (wc := []) hD hS hA [] rfl
  refine va_calli (va_runS (As := [.int p1]) (rest := []) ⟨hx, hb, hml, hown, hts⟩ (c_s_J6_bitCount_0f7a4_b9 l dC dI cB cI cJ cZ cP p1 (rg_mono hp1 (by decide) (by decide)) H.size) (va_cwS 1 hts (gd_S (List.mem_of_getElem? (i := 1) rfl) (List.mem_of_getElem? (i := 2) rfl) (List.mem_of_getElem? (i := 3) rfl) (gd_mono k_s_J6_bitCount_0f7a4_b9 (fun _ h => List.mem_cons_of_mem _ (List.mem_append_right _ (List.mem_append_right _ (List.mem_append_right _ (List.mem_append_left _ h))))))) rfl rfl rfl (by decide +kernel) ⟨Nat.le_of_ble_eq_true rfl, Nat.le_of_ble_eq_true rfl⟩) ⟨fun a U g mk q => by obtain ⟨q0, q1, qP, qK, qD⟩ := q; exact ⟨q0, q1, qP, va_K.moved (u := U) (U := U.calling g mk a) (Vm.Alike.refl U.vm) qK, qD⟩, fun U hU hW => ⟨rfl, by rw [hU], by rw [hU]; exact hPc, va_K.moved hW.alike hK, hDc.weaken (fun _ _ _ _ => trivial)⟩⟩ rfl rfl hl.1 rfl (lv_room (Nat.le_of_ble_eq_true rfl)) dX0_walk_1 ⟨Nat.le_of_ble_eq_true rfl, Nat.le_of_ble_eq_true rfl⟩) hS (fun q _ h => hFc q h) hFc (fun r_1 u t H1 locs ht hvm hw hB hz1 hk1 hS => ?_)
  obtain ⟨hu9, hw⟩ := hw
  rw [hu9] at hB
  clear hu9
  obtain ⟨k_2, hP1, hD1⟩ := hB
  rw [ht] at hP1
  obtain ⟨hP, hD⟩ := va_join (wr := [(h0, .inr (0, [.ref h1, .ref h2, .ref h3, .ref h4, .ref h5, .ref h6, .int a0, .int a1, .int a2, .int a3])), (h1, .inl (cI, 2520, .inl g0)), (h2, .inl (cI, 2520, .inl g1)), (h4, .inl (cI, 4096, .inl g3)), (h5, .inl (cI, 81, .inl g4)), (h7, .inr (7, [.ref h8, .ref h9, .ref h10, .ref h11, .ref h12, .ref h13, .int a4, .int a5, .int a6, .int a7, .int a8, .int a9, .int a10, .int a11])), (h8, .inl (cI, 9, .inl g6)), (h9, .inl (cI, 9, .inl g7))]) (w1 := []) hP hD [] [0, 1, 2, 3, 4, 5, 6, 7] rfl rfl (by decide) (by decide) hk1 hFc hP1 hD1
  generalize H1 = H at hP hS ⊢
  replace hP : va_P (dC, dI) vwCl [(h0, .inr (0, [.ref h1, .ref h2, .ref h3, .ref h4, .ref h5, .ref h6, .int a0, .int a1, .int a2, .int a3])), (h1, .inl (cI, 2520, .inl g0)), (h2, .inl (cI, 2520, .inl g1)), (h4, .inl (cI, 4096, .inl g3)), (h5, .inl (cI, 81, .inl g4)), (h7, .inr (7, [.ref h8, .ref h9, .ref h10, .ref h11, .ref h12, .ref h13, .int a4, .int a5, .int a6, .int a7, .int a8, .int a9, .int a10, .int a11])), (h8, .inl (cI, 9, .inl g6)), (h9, .inl (cI, 9, .inl g7))] H := hP
  replace hD : va_D A [(h0, .inr (0, [.ref h1, .ref h2, .ref h3, .ref h4, .ref h5, .ref h6, .int a0, .int a1, .int a2, .int a3])), (h1, .inl (cI, 2520, .inl g0)), (h2, .inl (cI, 2520, .inl g1)), (h4, .inl (cI, 4096, .inl g3)), (h5, .inl (cI, 81, .inl g4)), (h7, .inr (7, [.ref h8, .ref h9, .ref h10, .ref h11, .ref h12, .ref h13, .int a4, .int a5, .int a6, .int a7, .int a8, .int a9, .int a10, .int a11])), (h8, .inl (cI, 9, .inl g6)), (h9, .inl (cI, 9, .inl g7))] := hD
  have hr_1 : rg (0) (9) r_1 := hw.1
  have kr_1_0 : rg (0) (8) r_1 → rg (0) (510) p1 := hw.2
  refine tp_v (.int 3) (congrArg Value.int (k_2.trans kr1)) ?_
  refine lv_istore (lv' := [(6, .int 3), (0, .ref h0), (1, .ref h7), (2, .int p1), (3, .int p2), (4, .int p3), (5, .int p4)]) hx hb dX0_walk_4 hl (by decide) rfl (fun ls hl => ?_)
  refine lv_iload hx hb dX0_walk_6 (lv_at hl 0 rfl) ?_
  refine lv_aload_n hx hb dX0_walk_8 rfl (lv_at hl 1 rfl) ?_
  refine va_get (D := (dC, dI)) (ci := 0) (v := .int a2) (C := RX0) (T := TX0) (N := 10) hx hb hts hinX0 hown hK hP 0 rfl rfl 8 (by decide) (hts (.fieldLink RX0 37 "MayRings$Families" "size" "I") (List.mem_of_getElem? (i := 4) rfl)) (fun _ h9 => h9) rfl dX0_walk_9 ?_
  refine lv_icmp_lt (tgt := 26) hx hb dX0_walk_12 (by decide) (fun c_3 => ?_) (fun c_3 => ?_)
  · skip
    have h_4 : rg (4) (7) a2 := by have ha := (rg_k (x := 3) (c := 3) (by decide)); have hb_ := ha2; simp only [rg, fa_lt, fa_le, fa_eq, (by decide : (3 : Int32).toInt = 3)] at ha hb_ c_3; simp only [rg]; omega
    refine lv_aload_n hx hb dX0_walk_26 rfl (lv_at hl 2 rfl) ?_
    refine va_get (D := (dC, dI)) (ci := 7) (v := .ref h8) (C := RX7) (T := TX7) (N := 14) hx hb hts hinX7 hown hK hP 5 rfl rfl 0 (by decide) (hts (.fieldLink RX0 67 "MayRings$Ways" "ground" "[I") (List.mem_of_getElem? (i := 5) rfl)) (fun _ h9 => h9) rfl dX0_walk_27 ?_
    refine lv_iload hx hb dX0_walk_30 (lv_at hl 0 rfl) ?_
    refine va_iald hx hb hK hP 6 1 rfl rfl (rg_in (n := 9) (rg_mono (rg_k (x := 3) (c := 3) (by decide)) (by decide) (by decide))) dX0_walk_32 ?_
    refine lv_topi (fun x_5 ex_5 => ?_)
    have hx_5 : rg (0) (511) x_5 := by rw [ex_5]; exact rg_mono (hg6 _) (by decide) (by decide)
    refine lv_aload_n hx hb dX0_walk_33 rfl (lv_at hl 2 rfl) ?_
    refine va_get (D := (dC, dI)) (ci := 7) (v := .ref h9) (C := RX7) (T := TX7) (N := 14) hx hb hts hinX7 hown hK hP 5 rfl rfl 1 (by decide) (hts (.fieldLink RX0 78 "MayRings$Ways" "pairs" "[I") (List.mem_of_getElem? (i := 6) rfl)) (fun _ h9 => h9) rfl dX0_walk_34 ?_
    refine lv_iload_n hx hb dX0_walk_37 rfl (lv_at hl 4 rfl) ?_
    refine va_iald hx hb hK hP 7 1 rfl rfl (rg_in (n := 9) (rg_mono hp2 (by decide) (by decide))) dX0_walk_38 ?_
    refine lv_topi (fun x_6 ex_6 => ?_)
    have hx_6 : rg (0) (511) x_6 := by rw [ex_6]; exact rg_mono (hg7 _) (by decide) (by decide)
    refine lv_iand hx hb dX0_walk_39 ?_
    refine lv_topi (fun x_7 ex_7 => ?_)
    have hx_7 : rg (0) (511) x_7 := by rw [ex_7]; exact rg_mono (rg_andl (b := 511) (rg_mono hx_5 (by decide) (by decide))) (by decide) (by decide)
    have kx_7_0 : rg 1 2147483647 x_7 → rg 1 (511) x_5 := fun hq => rg_andP hx_5 (ex_7 ▸ hq)
    have kx_7_1 : rg 1 2147483647 x_7 → rg 1 (511) x_6 := fun hq => rg_andP' hx_6 (ex_7 ▸ hq)
    refine lv_iload_n hx hb dX0_walk_40 rfl (lv_at hl 3 rfl) ?_
    refine lv_iconst (v := (-1)) hx hb dX0_walk_41 (by decide) ?_
    refine lv_ixor hx hb dX0_walk_42 ?_
    refine lv_topi (fun x_8 ex_8 => ?_)
    refine lv_iand hx hb dX0_walk_43 ?_
    refine lv_topi (fun x_9 ex_9 => ?_)
    have hx_9 : rg (0) (511) x_9 := by rw [ex_9]; exact rg_mono (rg_andl (b := 511) (rg_mono hx_7 (by decide) (by decide))) (by decide) (by decide)
    have kx_9_0 : rg 1 2147483647 x_9 → rg 1 (511) x_7 := fun hq => rg_andP hx_7 (ex_9 ▸ hq)
    refine lv_istore (lv' := [(7, .int x_9), (6, .int 3), (0, .ref h0), (1, .ref h7), (2, .int p1), (3, .int p2), (4, .int p3), (5, .int p4)]) hx hb dX0_walk_44 hl (by decide) rfl (fun ls hl => ?_)
    refine lv_iconst (v := 0) hx hb dX0_walk_46 (by decide) ?_
    refine lv_istore (lv' := [(8, .int 0), (7, .int x_9), (6, .int 3), (0, .ref h0), (1, .ref h7), (2, .int p1), (3, .int p2), (4, .int p3), (5, .int p4)]) hx hb dX0_walk_47 hl (by decide) rfl (fun ls hl => ?_)
    refine W_loopM (σ := Int32 × (Nat → Int32) × (Nat → Int32) × (Nat → Int32) × Int32 × Int32) (fun u H locs ls => va_P (dC, dI) vwCl [(h0, .inr (0, [.ref h1, .ref h2, .ref h3, .ref h4, .ref h5, .ref h6, .int u.2.2.2.2.1, .int a1, .int a2, .int u.2.2.2.2.2])), (h1, .inl (cI, 2520, .inl u.2.1)), (h2, .inl (cI, 2520, .inl u.2.2.1)), (h4, .inl (cI, 4096, .inl u.2.2.2.1)), (h5, .inl (cI, 81, .inl g4)), (h7, .inr (7, [.ref h8, .ref h9, .ref h10, .ref h11, .ref h12, .ref h13, .int a4, .int a5, .int a6, .int a7, .int a8, .int a9, .int a10, .int a11])), (h8, .inl (cI, 9, .inl g6)), (h9, .inl (cI, 9, .inl g7))] H ∧ va_D A [(h0, .inr (0, [.ref h1, .ref h2, .ref h3, .ref h4, .ref h5, .ref h6, .int u.2.2.2.2.1, .int a1, .int a2, .int u.2.2.2.2.2])), (h1, .inl (cI, 2520, .inl u.2.1)), (h2, .inl (cI, 2520, .inl u.2.2.1)), (h4, .inl (cI, 4096, .inl u.2.2.2.1)), (h5, .inl (cI, 81, .inl g4)), (h7, .inr (7, [.ref h8, .ref h9, .ref h10, .ref h11, .ref h12, .ref h13, .int a4, .int a5, .int a6, .int a7, .int a8, .int a9, .int a10, .int a11])), (h8, .inl (cI, 9, .inl g6)), (h9, .inl (cI, 9, .inl g7))] ∧ va_S A s.heap H locs ∧ lv_has ls 9 [(8, .int u.1), (7, .int x_9), (6, .int 3), (0, .ref h0), (1, .ref h7), (2, .int p1), (3, .int p2), (4, .int p3), (5, .int p4)] ∧ rg (0) (9) u.1 ∧ rg (0) (2520) u.2.2.2.2.1 ∧ (nbA u.2.2.1)) (fun u => ((9) - u.1.toInt).toNat) 49 [] ?_ (0, g0, g1, g3, a0, a3) H locs ls ⟨hP, hD, hS, hl, (rg_mono (rg_k (x := 0) (c := 0) (by decide)) (by decide) (by decide)), (rg_mono ha0 (by decide) (by decide)), kr0⟩
    rintro ⟨x_305, f_306, f_307, f_308, x_309, x_310⟩ H locs ls ⟨hP, hD, hS, hl, hx_305, hx_309, kl49_310_0⟩ ih_341
    replace kl49_310_0 : nbA f_307 := kl49_310_0
    replace hP : va_P (dC, dI) vwCl [(h0, .inr (0, [.ref h1, .ref h2, .ref h3, .ref h4, .ref h5, .ref h6, .int x_309, .int a1, .int a2, .int x_310])), (h1, .inl (cI, 2520, .inl f_306)), (h2, .inl (cI, 2520, .inl f_307)), (h4, .inl (cI, 4096, .inl f_308)), (h5, .inl (cI, 81, .inl g4)), (h7, .inr (7, [.ref h8, .ref h9, .ref h10, .ref h11, .ref h12, .ref h13, .int a4, .int a5, .int a6, .int a7, .int a8, .int a9, .int a10, .int a11])), (h8, .inl (cI, 9, .inl g6)), (h9, .inl (cI, 9, .inl g7))] H := hP
    replace hD : va_D A [(h0, .inr (0, [.ref h1, .ref h2, .ref h3, .ref h4, .ref h5, .ref h6, .int x_309, .int a1, .int a2, .int x_310])), (h1, .inl (cI, 2520, .inl f_306)), (h2, .inl (cI, 2520, .inl f_307)), (h4, .inl (cI, 4096, .inl f_308)), (h5, .inl (cI, 81, .inl g4)), (h7, .inr (7, [.ref h8, .ref h9, .ref h10, .ref h11, .ref h12, .ref h13, .int a4, .int a5, .int a6, .int a7, .int a8, .int a9, .int a10, .int a11])), (h8, .inl (cI, 9, .inl g6)), (h9, .inl (cI, 9, .inl g7))] := hD
    replace hl : lv_has ls 9 [(8, .int x_305), (7, .int x_9), (6, .int 3), (0, .ref h0), (1, .ref h7), (2, .int p1), (3, .int p2), (4, .int p3), (5, .int p4)] := hl
    replace hx_305 : rg (0) (9) x_305 := hx_305
    replace hx_309 : rg (0) (2520) x_309 := hx_309
    refine lv_iload hx hb dX0_walk_49 (lv_at hl 0 rfl) ?_
    refine lv_bipush (v := 9) hx hb dX0_walk_51 (by decide) ?_
    refine lv_icmp_ge (tgt := 111) hx hb dX0_walk_53 (by decide) (fun c_342 => ?_) (fun c_342 => ?_)
    · skip
      have h_343 : rg (9) (9) x_305 := by have ha := hx_305; have hb_ := (rg_k (x := 9) (c := 9) (by decide)); simp only [rg, fa_lt, fa_le, fa_eq, (by decide : (9 : Int32).toInt = 9)] at ha hb_ c_342; simp only [rg]; omega
      have hP9 := hP.sub (ws' := [(h0, .inr (0, [.ref h1, .ref h2, .ref h3, .ref h4, .ref h5, .ref h6, .int x_309, .int a1, .int a2, .int x_310])), (h1, .inl (cI, 2520, .inl f_306)), (h2, .inl (cI, 2520, .inl f_307)), (h4, .inl (cI, 4096, .inl f_308)), (h5, .inl (cI, 81, .inl g4)), (h7, .inr (7, [.ref h8, .ref h9, .ref h10, .ref h11, .ref h12, .ref h13, .int a4, .int a5, .int a6, .int a7, .int a8, .int a9, .int a10, .int a11])), (h8, .inl (cI, 9, .inl g6)), (h9, .inl (cI, 9, .inl g7))]) [0, 1, 2, 3, 4, 5, 6, 7] rfl
      have hD9 := hD.sub (ws' := [(h0, .inr (0, [.ref h1, .ref h2, .ref h3, .ref h4, .ref h5, .ref h6, .int x_309, .int a1, .int a2, .int x_310])), (h1, .inl (cI, 2520, .inl f_306)), (h2, .inl (cI, 2520, .inl f_307)), (h4, .inl (cI, 4096, .inl f_308)), (h5, .inl (cI, 81, .inl g4)), (h7, .inr (7, [.ref h8, .ref h9, .ref h10, .ref h11, .ref h12, .ref h13, .int a4, .int a5, .int a6, .int a7, .int a8, .int a9, .int a10, .int a11])), (h8, .inl (cI, 9, .inl g6)), (h9, .inl (cI, 9, .inl g7))]) [0, 1, 2, 3, 4, 5, 6, 7] (by decide) rfl
      exact W.vret hx hb hr (fun t ht hW => ⟨⟨(), rfl, trivial, ⟨x_309, x_310, f_306, f_307, f_308, (rg_mono hx_309 (by decide) (by decide)), kl49_310_0, by rw [ht]; exact hP9, hD9⟩⟩, hS.F ht⟩) hS.2.2 dX0_walk_111
    · skip
      have h_344 : rg (0) (8) x_305 := by have ha := hx_305; have hb_ := (rg_k (x := 9) (c := 9) (by decide)); simp only [rg, fa_lt, fa_le, fa_eq, (by decide : (9 : Int32).toInt = 9)] at ha hb_ c_342; simp only [rg]; omega
      refine lv_iload hx hb dX0_walk_56 (lv_at hl 1 rfl) ?_
      refine lv_iload hx hb dX0_walk_58 (lv_at hl 0 rfl) ?_
      refine lv_ishr hx hb dX0_walk_60 ?_
      refine lv_topi (fun x_345 ex_345 => ?_)
      have hx_345 : rg (0) (511) x_345 := by rw [ex_345]; exact rg_mono (rg_shr (b := 511) (rg_mono hx_9 (by decide) (by decide))) (by decide) (by decide)
      have kx_345_0 : rg 1 2147483647 x_345 → rg 1 (511) x_9 := fun hq => rg_shrP hx_9 (ex_345 ▸ hq)
      refine lv_iconst (v := 1) hx hb dX0_walk_61 (by decide) ?_
      refine lv_iand hx hb dX0_walk_62 ?_
      refine lv_topi (fun x_346 ex_346 => ?_)
      have hx_346 : rg (0) (1) x_346 := by rw [ex_346]; exact rg_mono (rg_andr (b := 1) (rg_mono (rg_k (x := 1) (c := 1) (by decide)) (by decide) (by decide))) (by decide) (by decide)
      have kx_346_0 : rg 1 2147483647 x_346 → rg 1 (511) x_345 := fun hq => rg_andP hx_345 (ex_346 ▸ hq)
      refine lv_iconst (v := 1) hx hb dX0_walk_63 (by decide) ?_
      refine lv_icmp_ne (tgt := 105) hx hb dX0_walk_64 (by decide) (fun c_347 => ?_) (fun c_347 => ?_)
      · skip
        have h_348 : rg (0) (0) x_346 := by have ha := hx_346; have hb_ := (rg_k (x := 1) (c := 1) (by decide)); simp only [rg, fa_lt, fa_le, fa_eq, (by decide : (1 : Int32).toInt = 1)] at ha hb_ c_347; simp only [rg]; omega
        obtain ⟨x_349, ex_349⟩ : ∃ y : Int32, y = x_305 + Int32.ofInt (1) := ⟨_, rfl⟩
        have hx_349 : rg (1) (9) x_349 := by rw [ex_349]; exact rg_mono (rg_add h_344 (rg_k (x := Int32.ofInt (1)) (c := 1) (by decide)) (by decide) (by decide)) (by decide) (by decide)
        have qx_349 : x_349.toInt = x_305.toInt + (1) := by rw [ex_349]; exact rg_addE h_344 (rg_k (x := Int32.ofInt (1)) (c := 1) (by decide)) (by decide) (by decide) (by decide)
        refine lv_iinc (v := x_349) (lv' := [(8, .int x_349), (7, .int x_9), (6, .int 3), (0, .ref h0), (1, .ref h7), (2, .int p1), (3, .int p2), (4, .int p3), (5, .int p4)]) hx hb dX0_walk_105 hl (k := 0) rfl (ex_349.symm) (by decide) rfl (fun ls hl => ?_)
        clear ex_349
        refine lv_goto (tgt := 49) hx hb dX0_walk_108 (by decide) ?_
        exact ih_341 (x_349, f_306, f_307, f_308, x_309, x_310) H locs ls ⟨hP.sub (ws' := [(h0, .inr (0, [.ref h1, .ref h2, .ref h3, .ref h4, .ref h5, .ref h6, .int x_309, .int a1, .int a2, .int x_310])), (h1, .inl (cI, 2520, .inl f_306)), (h2, .inl (cI, 2520, .inl f_307)), (h4, .inl (cI, 4096, .inl f_308)), (h5, .inl (cI, 81, .inl g4)), (h7, .inr (7, [.ref h8, .ref h9, .ref h10, .ref h11, .ref h12, .ref h13, .int a4, .int a5, .int a6, .int a7, .int a8, .int a9, .int a10, .int a11])), (h8, .inl (cI, 9, .inl g6)), (h9, .inl (cI, 9, .inl g7))]) [0, 1, 2, 3, 4, 5, 6, 7] rfl, hD.sub (ws' := [(h0, .inr (0, [.ref h1, .ref h2, .ref h3, .ref h4, .ref h5, .ref h6, .int x_309, .int a1, .int a2, .int x_310])), (h1, .inl (cI, 2520, .inl f_306)), (h2, .inl (cI, 2520, .inl f_307)), (h4, .inl (cI, 4096, .inl f_308)), (h5, .inl (cI, 81, .inl g4)), (h7, .inr (7, [.ref h8, .ref h9, .ref h10, .ref h11, .ref h12, .ref h13, .int a4, .int a5, .int a6, .int a7, .int a8, .int a9, .int a10, .int a11])), (h8, .inl (cI, 9, .inl g6)), (h9, .inl (cI, 9, .inl g7))]) [0, 1, 2, 3, 4, 5, 6, 7] (by decide) rfl, hS, lv_sub hl [0, 1, 2, 3, 4, 5, 6, 7, 8] rfl, (rg_mono hx_349 (by decide) (by decide)), (rg_mono hx_309 (by decide) (by decide)), kl49_310_0⟩ (by show ((9) - x_349.toInt).toNat < ((9) - x_305.toInt).toNat; have ha := h_344; simp only [rg] at ha; omega)
      · skip
        have h_350 : rg (1) (1) x_346 := by have ha := hx_346; have hb_ := (rg_k (x := 1) (c := 1) (by decide)); simp only [rg, fa_lt, fa_le, fa_eq, (by decide : (1 : Int32).toInt = 1)] at ha hb_ c_347; simp only [rg]; omega
        have h_351 : rg (1) (511) x_345 := rg_meet hx_345 (kx_346_0 (rg_mono h_350 (by decide) (by decide))) (by decide) (by decide)
        have h_352 : rg (1) (511) x_9 := rg_meet hx_9 (kx_345_0 (rg_mono h_351 (by decide) (by decide))) (by decide) (by decide)
        have h_353 : rg (1) (511) x_7 := rg_meet hx_7 (kx_9_0 (rg_mono h_352 (by decide) (by decide))) (by decide) (by decide)
        have h_354 : rg (1) (511) x_5 := rg_meet hx_5 (kx_7_0 (rg_mono h_353 (by decide) (by decide))) (by decide) (by decide)
        have h_355 : rg (1) (511) x_6 := rg_meet hx_6 (kx_7_1 (rg_mono h_353 (by decide) (by decide))) (by decide) (by decide)
        refine lv_aload_n hx hb dX0_walk_67 rfl (lv_at hl 3 rfl) ?_
        refine lv_aload_n hx hb dX0_walk_68 rfl (lv_at hl 4 rfl) ?_
        refine lv_iload_n hx hb dX0_walk_69 rfl (lv_at hl 5 rfl) ?_
        refine lv_iconst (v := 1) hx hb dX0_walk_70 (by decide) ?_
        refine lv_iload hx hb dX0_walk_71 (lv_at hl 0 rfl) ?_
        refine lv_ishl hx hb dX0_walk_73 ?_
        refine lv_topi (fun x_356 ex_356 => ?_)
        have hx_356 : rg (1) (256) x_356 := by rw [ex_356]; exact rg_mono (rg_shl1 8 (rg_mono h_344 (by decide) (by decide)) (by decide)) (by decide) (by decide)
        refine lv_ior hx hb dX0_walk_74 ?_
        refine lv_topi (fun x_357 ex_357 => ?_)
        have hx_357 : rg (0) (511) x_357 := by rw [ex_357]; exact rg_mono (rg_or 9 (rg_mono hp1 (by decide) (by decide)) (rg_mono hx_356 (by decide) (by decide)) (by decide)) (by decide) (by decide)
        refine lv_iload hx hb dX0_walk_75 (lv_at hl 0 rfl) ?_
        refine lv_iload hx hb dX0_walk_77 (lv_at hl 7 rfl) ?_
        refine lv_aload_n hx hb dX0_walk_79 rfl (lv_at hl 3 rfl) ?_
        refine va_get (D := (dC, dI)) (ci := 0) (v := .ref h5) (C := RX0) (T := TX0) (N := 10) hx hb hts hinX0 hown hK hP 0 rfl rfl 4 (by decide) (hts (.fieldLink RX0 24 "MayRings$Families" "bits" "[I") (List.mem_of_getElem? (i := 7) rfl)) (fun _ h9 => h9) rfl dX0_walk_80 ?_
        refine lv_iload_n hx hb dX0_walk_83 rfl (lv_at hl 6 rfl) ?_
        refine lv_bipush (v := 9) hx hb dX0_walk_84 (by decide) ?_
        refine lv_imul hx hb dX0_walk_86 ?_
        refine lv_topi (fun x_358 ex_358 => ?_)
        have hx_358 : rg (0) (72) x_358 := by rw [ex_358]; exact rg_mono (rg_mul hp2 (rg_k (x := 9) (c := 9) (by decide)) (by decide) (by decide) (by decide)) (by decide) (by decide)
        refine lv_iload hx hb dX0_walk_87 (lv_at hl 0 rfl) ?_
        refine lv_iadd hx hb dX0_walk_89 ?_
        refine lv_topi (fun x_359 ex_359 => ?_)
        have hx_359 : rg (0) (80) x_359 := by rw [ex_359]; exact rg_mono (rg_add hx_358 h_344 (by decide) (by decide)) (by decide) (by decide)
        have qx_359 : x_359.toInt = x_358.toInt + x_305.toInt := by rw [ex_359]; exact rg_addQ hx_358 h_344 (by decide) (by decide)
        refine va_iald hx hb hK hP 4 1 rfl rfl (rg_in (n := 81) (rg_mono hx_359 (by decide) (by decide))) dX0_walk_90 ?_
        refine lv_topi (fun x_360 ex_360 => ?_)
        refine lv_ior hx hb dX0_walk_91 ?_
        refine lv_topi (fun x_361 ex_361 => ?_)
        refine lv_iload hx hb dX0_walk_92 (lv_at hl 8 rfl) ?_
        refine lv_iload hx hb dX0_walk_94 (lv_at hl 0 rfl) ?_
        refine lv_iconst (v := 4) hx hb dX0_walk_96 (by decide) ?_
        refine lv_iload hx hb dX0_walk_97 (lv_at hl 2 rfl) ?_
        refine lv_imul hx hb dX0_walk_99 ?_
        refine tp_v (.int 12) (congrArg Value.int (by decide)) ?_
        refine lv_ishl hx hb dX0_walk_100 ?_
        refine lv_topi (fun x_362 ex_362 => ?_)
        refine lv_ior hx hb dX0_walk_101 ?_
        refine lv_topi (fun x_363 ex_363 => ?_)
        have hPc := hP.sub (ws' := [(h0, .inr (0, [.ref h1, .ref h2, .ref h3, .ref h4, .ref h5, .ref h6, .int x_309, .int a1, .int a2, .int x_310])), (h1, .inl (cI, 2520, .inl f_306)), (h2, .inl (cI, 2520, .inl f_307)), (h4, .inl (cI, 4096, .inl f_308)), (h5, .inl (cI, 81, .inl g4)), (h7, .inr (7, [.ref h8, .ref h9, .ref h10, .ref h11, .ref h12, .ref h13, .int a4, .int a5, .int a6, .int a7, .int a8, .int a9, .int a10, .int a11])), (h8, .inl (cI, 9, .inl g6)), (h9, .inl (cI, 9, .inl g7))]) [0, 1, 2, 3, 4, 5, 6, 7] rfl
        have hDc := hD.sub (ws' := [(h0, .inr (0, [.ref h1, .ref h2, .ref h3, .ref h4, .ref h5, .ref h6, .int x_309, .int a1, .int a2, .int x_310])), (h1, .inl (cI, 2520, .inl f_306)), (h2, .inl (cI, 2520, .inl f_307)), (h4, .inl (cI, 4096, .inl f_308)), (h5, .inl (cI, 81, .inl g4)), (h7, .inr (7, [.ref h8, .ref h9, .ref h10, .ref h11, .ref h12, .ref h13, .int a4, .int a5, .int a6, .int a7, .int a8, .int a9, .int a10, .int a11])), (h8, .inl (cI, 9, .inl g6)), (h9, .inl (cI, 9, .inl g7))]) [0, 1, 2, 3, 4, 5, 6, 7] (by decide) rfl
        have hFc := va_free (wc := [(h0, .inr (0, [.ref h1, .ref h2, .ref h3, .ref h4, .ref h5, .ref h6, .int x_309, .int a1, .int a2, .int x_310])), (h1, .inl (cI, 2520, .inl f_306)), (h2, .inl (cI, 2520, .inl f_307)), (h4, .inl (cI, 4096, .inl f_308)), (h5, .inl (cI, 81, .inl g4)), (h7, .inr (7, [.ref h8, .ref h9, .ref h10, .ref h11, .ref h12, .ref h13, .int a4, .int a5, .int a6, .int a7, .int a8, .int a9, .int a10, .int a11])), (h8, .inl (cI, 9, .inl g6)), (h9, .inl (cI, 9, .inl g7))]) hD hS hA [0, 1, 2, 3, 4, 5, 6, 7] rfl
        refine va_callv (va_runV (As := [.ref h7, .int x_357, .int x_305, .int x_361, .int x_363]) (rest := []) ⟨hx, hb, hml, hown, hts⟩ (c_s_X0_walk_k4 l dC dI cB cI cJ cZ cP h0 h1 f_306 h2 f_307 h3 h4 f_308 h5 g4 h6 x_309 (rg_mono hx_309 (by decide) (by decide)) a1 a2 (rg_mono h_4 (by decide) (by decide)) x_310 h7 h8 g6 hg6 h9 g7 hg7 h10 h11 h12 h13 a4 a5 a6 (rg_mono ha6 (by decide) (by decide)) a7 a8 a9 a10 a11 x_357 (rg_mono hx_357 (by decide) (by decide)) x_305 (rg_mono h_344 (by decide) (by decide)) x_361 x_363 kl49_310_0 (show bcE x_357 = 4 from (by rw [ex_357, ex_356]; exact bc_step (rg_mono hp1 (by decide) (by decide)) (rg_mono h_344 (by decide) (by decide)) (ex_9.trans (by rw [ex_8])) (by rw [← ex_345, ← ex_346]; exact c_347) kr1 (by decide))) (show nbk 4 x_363 from (by rw [ex_363, ex_362]; exact nbk_step 3 kr2 (rg_mono h_344 (by decide) (by decide)) (by decide) (by decide))) H.size) (cwV 5 hts (gd_V (List.mem_of_getElem? (i := 8) rfl) (List.mem_of_getElem? (i := 9) rfl) (List.mem_of_getElem? (i := 10) rfl) (List.mem_of_getElem? (i := 11) rfl) (gd_mono k_s_X0_walk_k4 (fun _ h => List.mem_cons_of_mem _ (List.mem_append_right _ (List.mem_append_right _ (List.mem_append_right _ (List.mem_append_right _ (List.mem_append_left _ h)))))))) rfl rfl rfl (by decide +kernel) ⟨Nat.le_of_ble_eq_true rfl, Nat.le_of_ble_eq_true rfl⟩) ⟨fun a U g mk q => by obtain ⟨q0, q1, qP, qK, qD⟩ := q; exact ⟨q0, q1, qP, va_K.moved (u := U) (U := U.calling g mk a) (Vm.Alike.refl U.vm) qK, qD⟩, va_recv hK hPc (ci := 0) (q0 := 0) rfl rfl, fun U hU hW => ⟨rfl, by rw [hU], by rw [hU]; exact hPc, va_K.moved hW.alike hK, hDc.weaken (fun _ _ _ _ => trivial)⟩⟩ rfl rfl hl.1 rfl (lv_room (Nat.le_of_ble_eq_true rfl)) dX0_walk_102 ⟨Nat.le_of_ble_eq_true rfl, Nat.le_of_ble_eq_true rfl⟩) hS (fun q _ h => hFc q h) hFc (fun u t H1 locs ht hvm hw hB hz1 hk1 hS => ?_)
        obtain ⟨x_365, x_366, f_367, f_368, f_369, hx_365, k_370, hP1, hD1⟩ := hB
        rw [ht] at hP1
        obtain ⟨hP, hD⟩ := va_join (wr := []) (w1 := [(h0, .inr (0, [.ref h1, .ref h2, .ref h3, .ref h4, .ref h5, .ref h6, .int x_365, .int a1, .int a2, .int x_366])), (h1, .inl (cI, 2520, .inl f_367)), (h2, .inl (cI, 2520, .inl f_368)), (h4, .inl (cI, 4096, .inl f_369)), (h5, .inl (cI, 81, .inl g4)), (h7, .inr (7, [.ref h8, .ref h9, .ref h10, .ref h11, .ref h12, .ref h13, .int a4, .int a5, .int a6, .int a7, .int a8, .int a9, .int a10, .int a11])), (h8, .inl (cI, 9, .inl g6)), (h9, .inl (cI, 9, .inl g7))]) hP hD [0, 1, 2, 3, 4, 5, 6, 7] [] rfl rfl (by decide) (by decide) hk1 hFc hP1 hD1
        generalize H1 = H at hP hS ⊢
        replace hP : va_P (dC, dI) vwCl [(h0, .inr (0, [.ref h1, .ref h2, .ref h3, .ref h4, .ref h5, .ref h6, .int x_365, .int a1, .int a2, .int x_366])), (h1, .inl (cI, 2520, .inl f_367)), (h2, .inl (cI, 2520, .inl f_368)), (h4, .inl (cI, 4096, .inl f_369)), (h5, .inl (cI, 81, .inl g4)), (h7, .inr (7, [.ref h8, .ref h9, .ref h10, .ref h11, .ref h12, .ref h13, .int a4, .int a5, .int a6, .int a7, .int a8, .int a9, .int a10, .int a11])), (h8, .inl (cI, 9, .inl g6)), (h9, .inl (cI, 9, .inl g7))] H := hP
        replace hD : va_D A [(h0, .inr (0, [.ref h1, .ref h2, .ref h3, .ref h4, .ref h5, .ref h6, .int x_365, .int a1, .int a2, .int x_366])), (h1, .inl (cI, 2520, .inl f_367)), (h2, .inl (cI, 2520, .inl f_368)), (h4, .inl (cI, 4096, .inl f_369)), (h5, .inl (cI, 81, .inl g4)), (h7, .inr (7, [.ref h8, .ref h9, .ref h10, .ref h11, .ref h12, .ref h13, .int a4, .int a5, .int a6, .int a7, .int a8, .int a9, .int a10, .int a11])), (h8, .inl (cI, 9, .inl g6)), (h9, .inl (cI, 9, .inl g7))] := hD
        obtain ⟨x_371, ex_371⟩ : ∃ y : Int32, y = x_305 + Int32.ofInt (1) := ⟨_, rfl⟩
        have hx_371 : rg (1) (9) x_371 := by rw [ex_371]; exact rg_mono (rg_add h_344 (rg_k (x := Int32.ofInt (1)) (c := 1) (by decide)) (by decide) (by decide)) (by decide) (by decide)
        have qx_371 : x_371.toInt = x_305.toInt + (1) := by rw [ex_371]; exact rg_addE h_344 (rg_k (x := Int32.ofInt (1)) (c := 1) (by decide)) (by decide) (by decide) (by decide)
        refine lv_iinc (v := x_371) (lv' := [(8, .int x_371), (7, .int x_9), (6, .int 3), (0, .ref h0), (1, .ref h7), (2, .int p1), (3, .int p2), (4, .int p3), (5, .int p4)]) hx hb dX0_walk_105 hl (k := 0) rfl (ex_371.symm) (by decide) rfl (fun ls hl => ?_)
        clear ex_371
        refine lv_goto (tgt := 49) hx hb dX0_walk_108 (by decide) ?_
        exact ih_341 (x_371, f_367, f_368, f_369, x_365, x_366) H locs ls ⟨hP.sub (ws' := [(h0, .inr (0, [.ref h1, .ref h2, .ref h3, .ref h4, .ref h5, .ref h6, .int x_365, .int a1, .int a2, .int x_366])), (h1, .inl (cI, 2520, .inl f_367)), (h2, .inl (cI, 2520, .inl f_368)), (h4, .inl (cI, 4096, .inl f_369)), (h5, .inl (cI, 81, .inl g4)), (h7, .inr (7, [.ref h8, .ref h9, .ref h10, .ref h11, .ref h12, .ref h13, .int a4, .int a5, .int a6, .int a7, .int a8, .int a9, .int a10, .int a11])), (h8, .inl (cI, 9, .inl g6)), (h9, .inl (cI, 9, .inl g7))]) [0, 1, 2, 3, 4, 5, 6, 7] rfl, hD.sub (ws' := [(h0, .inr (0, [.ref h1, .ref h2, .ref h3, .ref h4, .ref h5, .ref h6, .int x_365, .int a1, .int a2, .int x_366])), (h1, .inl (cI, 2520, .inl f_367)), (h2, .inl (cI, 2520, .inl f_368)), (h4, .inl (cI, 4096, .inl f_369)), (h5, .inl (cI, 81, .inl g4)), (h7, .inr (7, [.ref h8, .ref h9, .ref h10, .ref h11, .ref h12, .ref h13, .int a4, .int a5, .int a6, .int a7, .int a8, .int a9, .int a10, .int a11])), (h8, .inl (cI, 9, .inl g6)), (h9, .inl (cI, 9, .inl g7))]) [0, 1, 2, 3, 4, 5, 6, 7] (by decide) rfl, hS, lv_sub hl [0, 1, 2, 3, 4, 5, 6, 7, 8] rfl, (rg_mono hx_371 (by decide) (by decide)), (rg_mono hx_365 (by decide) (by decide)), k_370⟩ (by show ((9) - x_371.toInt).toNat < ((9) - x_305.toInt).toNat; have ha := h_344; simp only [rg] at ha; omega)
  · skip
    have h_372 : rg (1) (3) a2 := by have ha := (rg_k (x := 3) (c := 3) (by decide)); have hb_ := ha2; simp only [rg, fa_lt, fa_le, fa_eq, (by decide : (3 : Int32).toInt = 3)] at ha hb_ c_3; simp only [rg]; omega
    refine lv_aload_n hx hb dX0_walk_15 rfl (lv_at hl 1 rfl) ?_
    refine lv_aload_n hx hb dX0_walk_16 rfl (lv_at hl 2 rfl) ?_
    refine lv_iload_n hx hb dX0_walk_17 rfl (lv_at hl 4 rfl) ?_
    refine lv_iload hx hb dX0_walk_18 (lv_at hl 5 rfl) ?_
    refine lv_iload hx hb dX0_walk_20 (lv_at hl 6 rfl) ?_
    have hPc := hP.sub (ws' := [(h0, .inr (0, [.ref h1, .ref h2, .ref h3, .ref h4, .ref h5, .ref h6, .int a0, .int a1, .int a2, .int a3])), (h1, .inl (cI, 2520, .inl g0)), (h2, .inl (cI, 2520, .inl g1)), (h4, .inl (cI, 4096, .inl g3)), (h5, .inl (cI, 81, .inl g4)), (h7, .inr (7, [.ref h8, .ref h9, .ref h10, .ref h11, .ref h12, .ref h13, .int a4, .int a5, .int a6, .int a7, .int a8, .int a9, .int a10, .int a11])), (h9, .inl (cI, 9, .inl g7))]) [0, 1, 2, 3, 4, 5, 7] rfl
    have hDc := hD.sub (ws' := [(h0, .inr (0, [.ref h1, .ref h2, .ref h3, .ref h4, .ref h5, .ref h6, .int a0, .int a1, .int a2, .int a3])), (h1, .inl (cI, 2520, .inl g0)), (h2, .inl (cI, 2520, .inl g1)), (h4, .inl (cI, 4096, .inl g3)), (h5, .inl (cI, 81, .inl g4)), (h7, .inr (7, [.ref h8, .ref h9, .ref h10, .ref h11, .ref h12, .ref h13, .int a4, .int a5, .int a6, .int a7, .int a8, .int a9, .int a10, .int a11])), (h9, .inl (cI, 9, .inl g7))]) [0, 1, 2, 3, 4, 5, 7] (by decide) rfl
    have hFc := va_free (wc := [(h0, .inr (0, [.ref h1, .ref h2, .ref h3, .ref h4, .ref h5, .ref h6, .int a0, .int a1, .int a2, .int a3])), (h1, .inl (cI, 2520, .inl g0)), (h2, .inl (cI, 2520, .inl g1)), (h4, .inl (cI, 4096, .inl g3)), (h5, .inl (cI, 81, .inl g4)), (h7, .inr (7, [.ref h8, .ref h9, .ref h10, .ref h11, .ref h12, .ref h13, .int a4, .int a5, .int a6, .int a7, .int a8, .int a9, .int a10, .int a11])), (h9, .inl (cI, 9, .inl g7))]) hD hS hA [0, 1, 2, 3, 4, 5, 7] rfl
    refine va_callv (va_runV (As := [.ref h7, .int p2, .int p3, .int p4]) (rest := []) ⟨hx, hb, hml, hown, hts⟩ (c_s_X0_close l dC dI cB cI cJ cZ cP h0 h1 g0 h2 g1 h3 h4 g3 h5 g4 h6 a0 (rg_mono ha0 (by decide) (by decide)) a1 a2 a3 h7 h8 h9 g7 hg7 h10 h11 h12 h13 a4 a5 a6 (rg_mono ha6 (by decide) (by decide)) a7 a8 a9 a10 a11 p2 (rg_mono hp2 (by decide) (by decide)) p3 p4 kr0 (show nb p4 from nb_of kr2) H.size) (cwV 4 hts (gd_V (List.mem_of_getElem? (i := 12) rfl) (List.mem_of_getElem? (i := 13) rfl) (List.mem_of_getElem? (i := 14) rfl) (List.mem_of_getElem? (i := 11) rfl) (gd_mono k_s_X0_close (fun _ h => List.mem_cons_of_mem _ (List.mem_append_right _ (List.mem_append_right _ (List.mem_append_right _ (List.mem_append_right _ (List.mem_append_right _ (List.mem_append_left _ h))))))))) rfl rfl rfl (by decide +kernel) ⟨Nat.le_of_ble_eq_true rfl, Nat.le_of_ble_eq_true rfl⟩) ⟨fun a U g mk q => by obtain ⟨q0, q1, qP, qK, qD⟩ := q; exact ⟨q0, q1, qP, va_K.moved (u := U) (U := U.calling g mk a) (Vm.Alike.refl U.vm) qK, qD⟩, va_recv hK hPc (ci := 0) (q0 := 0) rfl rfl, fun U hU hW => ⟨rfl, by rw [hU], by rw [hU]; exact hPc, va_K.moved hW.alike hK, hDc.weaken (fun _ _ _ _ => trivial)⟩⟩ rfl rfl hl.1 rfl (lv_room (Nat.le_of_ble_eq_true rfl)) dX0_walk_22 ⟨Nat.le_of_ble_eq_true rfl, Nat.le_of_ble_eq_true rfl⟩) hS (fun q _ h => hFc q h) hFc (fun u t H1 locs ht hvm hw hB hz1 hk1 hS => ?_)
    obtain ⟨x_374, x_375, f_376, f_377, f_378, hx_374, k_379, hP1, hD1⟩ := hB
    rw [ht] at hP1
    obtain ⟨hP, hD⟩ := va_join (wr := [(h8, .inl (cI, 9, .inl g6))]) (w1 := [(h0, .inr (0, [.ref h1, .ref h2, .ref h3, .ref h4, .ref h5, .ref h6, .int x_374, .int a1, .int a2, .int x_375])), (h1, .inl (cI, 2520, .inl f_376)), (h2, .inl (cI, 2520, .inl f_377)), (h4, .inl (cI, 4096, .inl f_378)), (h5, .inl (cI, 81, .inl g4)), (h7, .inr (7, [.ref h8, .ref h9, .ref h10, .ref h11, .ref h12, .ref h13, .int a4, .int a5, .int a6, .int a7, .int a8, .int a9, .int a10, .int a11])), (h9, .inl (cI, 9, .inl g7))]) hP hD [0, 1, 2, 3, 4, 5, 7] [6] rfl rfl (by decide) (by decide) hk1 hFc hP1 hD1
    generalize H1 = H at hP hS ⊢
    replace hP : va_P (dC, dI) vwCl [(h8, .inl (cI, 9, .inl g6)), (h0, .inr (0, [.ref h1, .ref h2, .ref h3, .ref h4, .ref h5, .ref h6, .int x_374, .int a1, .int a2, .int x_375])), (h1, .inl (cI, 2520, .inl f_376)), (h2, .inl (cI, 2520, .inl f_377)), (h4, .inl (cI, 4096, .inl f_378)), (h5, .inl (cI, 81, .inl g4)), (h7, .inr (7, [.ref h8, .ref h9, .ref h10, .ref h11, .ref h12, .ref h13, .int a4, .int a5, .int a6, .int a7, .int a8, .int a9, .int a10, .int a11])), (h9, .inl (cI, 9, .inl g7))] H := hP
    replace hD : va_D A [(h8, .inl (cI, 9, .inl g6)), (h0, .inr (0, [.ref h1, .ref h2, .ref h3, .ref h4, .ref h5, .ref h6, .int x_374, .int a1, .int a2, .int x_375])), (h1, .inl (cI, 2520, .inl f_376)), (h2, .inl (cI, 2520, .inl f_377)), (h4, .inl (cI, 4096, .inl f_378)), (h5, .inl (cI, 81, .inl g4)), (h7, .inr (7, [.ref h8, .ref h9, .ref h10, .ref h11, .ref h12, .ref h13, .int a4, .int a5, .int a6, .int a7, .int a8, .int a9, .int a10, .int a11])), (h9, .inl (cI, 9, .inl g7))] := hD
    have hP9 := hP.sub (ws' := [(h0, .inr (0, [.ref h1, .ref h2, .ref h3, .ref h4, .ref h5, .ref h6, .int x_374, .int a1, .int a2, .int x_375])), (h1, .inl (cI, 2520, .inl f_376)), (h2, .inl (cI, 2520, .inl f_377)), (h4, .inl (cI, 4096, .inl f_378)), (h5, .inl (cI, 81, .inl g4)), (h7, .inr (7, [.ref h8, .ref h9, .ref h10, .ref h11, .ref h12, .ref h13, .int a4, .int a5, .int a6, .int a7, .int a8, .int a9, .int a10, .int a11])), (h8, .inl (cI, 9, .inl g6)), (h9, .inl (cI, 9, .inl g7))]) [1, 2, 3, 4, 5, 6, 0, 7] rfl
    have hD9 := hD.sub (ws' := [(h0, .inr (0, [.ref h1, .ref h2, .ref h3, .ref h4, .ref h5, .ref h6, .int x_374, .int a1, .int a2, .int x_375])), (h1, .inl (cI, 2520, .inl f_376)), (h2, .inl (cI, 2520, .inl f_377)), (h4, .inl (cI, 4096, .inl f_378)), (h5, .inl (cI, 81, .inl g4)), (h7, .inr (7, [.ref h8, .ref h9, .ref h10, .ref h11, .ref h12, .ref h13, .int a4, .int a5, .int a6, .int a7, .int a8, .int a9, .int a10, .int a11])), (h8, .inl (cI, 9, .inl g6)), (h9, .inl (cI, 9, .inl g7))]) [1, 2, 3, 4, 5, 6, 0, 7] (by decide) rfl
    exact W.vret hx hb hr (fun t ht hW => ⟨⟨(), rfl, trivial, ⟨x_374, x_375, f_376, f_377, f_378, (rg_mono hx_374 (by decide) (by decide)), k_379, by rw [ht]; exact hP9, hD9⟩⟩, hS.F ht⟩) hS.2.2 dX0_walk_25
def v_s_X0_walk_k2 : List Cond := Cond.code yX0_walk cX0_walk 9 none :: ([Cond.methodLink RX0 81 yJ6_bitCount_0f7a4, Cond.static yJ6_bitCount_0f7a4, Cond.initialized RJ6, Cond.fieldLink RX0 37 "MayRings$Families" "size" "I", Cond.fieldLink RX0 67 "MayRings$Ways" "ground" "[I", Cond.fieldLink RX0 78 "MayRings$Ways" "pairs" "[I", Cond.fieldLink RX0 24 "MayRings$Families" "bits" "[I", Cond.methodLink RX0 70 yX0_walk, Cond.instanceMethod yX0_walk, Cond.selects RX0 yX0_walk yX0_walk, Cond.initialized RX0, Cond.methodLink RX0 87 yX0_close, Cond.instanceMethod yX0_close, Cond.selects RX0 yX0_close yX0_close] ++ (wsX00 ++ (wsX70 ++ (v_s_J6_bitCount_0f7a4_b9 ++ (v_s_X0_walk_k3 ++ (v_s_X0_close ++ ([])))))))
theorem k_s_X0_walk_k2 : GoodIn lw_tbl v_s_X0_walk_k2 := gd_c (List.mem_of_getElem? (i := 1051) (by decide +kernel)) rfl (goodIn_app (gd_c (List.mem_of_getElem? (i := 1052) (by decide +kernel)) rfl (gd_c (List.mem_of_getElem? (i := 878) (by decide +kernel)) rfl (gd_c (List.mem_of_getElem? (i := 147) (by decide +kernel)) rfl (gd_c (List.mem_of_getElem? (i := 508) (by decide +kernel)) rfl (gd_c (List.mem_of_getElem? (i := 441) (by decide +kernel)) rfl (gd_c (List.mem_of_getElem? (i := 444) (by decide +kernel)) rfl (gd_c (List.mem_of_getElem? (i := 504) (by decide +kernel)) rfl (gd_c (List.mem_of_getElem? (i := 1048) (by decide +kernel)) rfl (gd_c (List.mem_of_getElem? (i := 1050) (by decide +kernel)) rfl (gd_c (List.mem_of_getElem? (i := 56) (by decide +kernel)) rfl (gd_c (List.mem_of_getElem? (i := 143) (by decide +kernel)) rfl (gd_c (List.mem_of_getElem? (i := 1053) (by decide +kernel)) rfl (gd_c (List.mem_of_getElem? (i := 1055) (by decide +kernel)) rfl (gd_c (List.mem_of_getElem? (i := 57) (by decide +kernel)) rfl (gd_nil))))))))))))))) (goodIn_app kfX0 (goodIn_app kfX7 (goodIn_app k_s_J6_bitCount_0f7a4_b9 (goodIn_app k_s_X0_walk_k3 (goodIn_app k_s_X0_close (gd_nil)))))))
set_option maxHeartbeats 2000000 in
set_option maxRecDepth 100000 in
theorem c_s_X0_walk_k2 (l : Launch) (dC : Nat → ClassId) (dI : Nat → Nat → Nat) (cB cI cJ cZ cP : ClassId) (h0 : Nat) (h1 : Nat) (g0 : Nat → Int32) (h2 : Nat) (g1 : Nat → Int32) (h3 : Nat) (h4 : Nat) (g3 : Nat → Int32) (h5 : Nat) (g4 : Nat → Int32) (h6 : Nat) (a0 : Int32) (ha0 : rg (0) (2520) a0) (a1 : Int32) (a2 : Int32) (ha2 : rg (1) (7) a2) (a3 : Int32) (h7 : Nat) (h8 : Nat) (g6 : Nat → Int32) (hg6 : rgA (0) (511) g6) (h9 : Nat) (g7 : Nat → Int32) (hg7 : rgA (0) (511) g7) (h10 : Nat) (h11 : Nat) (h12 : Nat) (h13 : Nat) (a4 : Int32) (a5 : Int32) (a6 : Int32) (ha6 : rg (0) (1) a6) (a7 : Int32) (a8 : Int32) (a9 : Int32) (a10 : Int32) (a11 : Int32) (p1 : Int32) (hp1 : rg (0) (511) p1) (p2 : Int32) (hp2 : rg (0) (8) p2) (p3 : Int32) (p4 : Int32) (kr0 : nbA g1) (kr1 : bcE p1 = 2) (kr2 : nbk 2 p4) (sz : Nat) : Met l yX0_walk v_s_X0_walk_k2 ({ frames := 7, cells := 0, slots := 0, locals := 189 }) (va_Pc [.ref h0, .ref h7, .int p1, .int p2, .int p3, .int p4] (fun U => U.heap.size = sz ∧ va_P (dC, dI) vwCl [(h0, .inr (0, [.ref h1, .ref h2, .ref h3, .ref h4, .ref h5, .ref h6, .int a0, .int a1, .int a2, .int a3])), (h1, .inl (cI, 2520, .inl g0)), (h2, .inl (cI, 2520, .inl g1)), (h4, .inl (cI, 4096, .inl g3)), (h5, .inl (cI, 81, .inl g4)), (h7, .inr (7, [.ref h8, .ref h9, .ref h10, .ref h11, .ref h12, .ref h13, .int a4, .int a5, .int a6, .int a7, .int a8, .int a9, .int a10, .int a11])), (h8, .inl (cI, 9, .inl g6)), (h9, .inl (cI, 9, .inl g7))] U.heap ∧ va_K (dC, dI) vwCl (ty5 cB cI cJ cZ cP) U ∧ va_D (fun _ => True) [(h0, .inr (0, [.ref h1, .ref h2, .ref h3, .ref h4, .ref h5, .ref h6, .int a0, .int a1, .int a2, .int a3])), (h1, .inl (cI, 2520, .inl g0)), (h2, .inl (cI, 2520, .inl g1)), (h4, .inl (cI, 4096, .inl g3)), (h5, .inl (cI, 81, .inl g4)), (h7, .inr (7, [.ref h8, .ref h9, .ref h10, .ref h11, .ref h12, .ref h13, .int a4, .int a5, .int a6, .int a7, .int a8, .int a9, .int a10, .int a11])), (h8, .inl (cI, 9, .inl g6)), (h9, .inl (cI, 9, .inl g7))])) (va_Qv (fun _ : Unit => True) (fun _ t => ∃ (z0 : Int32) (z1 : Int32) (z2 : Nat → Int32) (z3 : Nat → Int32) (z4 : Nat → Int32), rg (0) (2520) z0 ∧ (nbA z3) ∧ va_P (dC, dI) vwCl [(h0, .inr (0, [.ref h1, .ref h2, .ref h3, .ref h4, .ref h5, .ref h6, .int z0, .int a1, .int a2, .int z1])), (h1, .inl (cI, 2520, .inl z2)), (h2, .inl (cI, 2520, .inl z3)), (h4, .inl (cI, 4096, .inl z4)), (h5, .inl (cI, 81, .inl g4)), (h7, .inr (7, [.ref h8, .ref h9, .ref h10, .ref h11, .ref h12, .ref h13, .int a4, .int a5, .int a6, .int a7, .int a8, .int a9, .int a10, .int a11])), (h8, .inl (cI, 9, .inl g6)), (h9, .inl (cI, 9, .inl g7))] t.heap ∧ va_D (va_A [(h0, .inr (0, [.ref h1, .ref h2, .ref h3, .ref h4, .ref h5, .ref h6, .int a0, .int a1, .int a2, .int a3])), (h1, .inl (cI, 2520, .inl g0)), (h2, .inl (cI, 2520, .inl g1)), (h4, .inl (cI, 4096, .inl g3)), (h5, .inl (cI, 81, .inl g4)), (h7, .inr (7, [.ref h8, .ref h9, .ref h10, .ref h11, .ref h12, .ref h13, .int a4, .int a5, .int a6, .int a7, .int a8, .int a9, .int a10, .int a11])), (h8, .inl (cI, 9, .inl g6)), (h9, .inl (cI, 9, .inl g7))] sz) [(h0, .inr (0, [.ref h1, .ref h2, .ref h3, .ref h4, .ref h5, .ref h6, .int z0, .int a1, .int a2, .int z1])), (h1, .inl (cI, 2520, .inl z2)), (h2, .inl (cI, 2520, .inl z3)), (h4, .inl (cI, 4096, .inl z4)), (h5, .inl (cI, 81, .inl g4)), (h7, .inr (7, [.ref h8, .ref h9, .ref h10, .ref h11, .ref h12, .ref h13, .int a4, .int a5, .int a6, .int a7, .int a8, .int a9, .int a10, .int a11])), (h8, .inl (cI, 9, .inl g6)), (h9, .inl (cI, 9, .inl g7))]) (va_A [(h0, .inr (0, [.ref h1, .ref h2, .ref h3, .ref h4, .ref h5, .ref h6, .int a0, .int a1, .int a2, .int a3])), (h1, .inl (cI, 2520, .inl g0)), (h2, .inl (cI, 2520, .inl g1)), (h4, .inl (cI, 4096, .inl g3)), (h5, .inl (cI, 81, .inl g4)), (h7, .inr (7, [.ref h8, .ref h9, .ref h10, .ref h11, .ref h12, .ref h13, .int a4, .int a5, .int a6, .int a7, .int a8, .int a9, .int a10, .int a11])), (h8, .inl (cI, 9, .inl g6)), (h9, .inl (cI, 9, .inl g7))] sz)) 0 0 (va_A [(h0, .inr (0, [.ref h1, .ref h2, .ref h3, .ref h4, .ref h5, .ref h6, .int a0, .int a1, .int a2, .int a3])), (h1, .inl (cI, 2520, .inl g0)), (h2, .inl (cI, 2520, .inl g1)), (h4, .inl (cI, 4096, .inl g3)), (h5, .inl (cI, 81, .inl g4)), (h7, .inr (7, [.ref h8, .ref h9, .ref h10, .ref h11, .ref h12, .ref h13, .int a4, .int a5, .int a6, .int a7, .int a8, .int a9, .int a10, .int a11])), (h8, .inl (cI, 9, .inl g6)), (h9, .inl (cI, 9, .inl g7))] sz) := by
  refine Met.ofW (cc := cX0_walk) (maxL := 9) (ret := none) (by decide) rfl ?_
  intro p e s m args below meth c s₁ B hml hv
  obtain ⟨rfl, hsz, hP, hK, hD0⟩ := hv
  have hx := B.exec
  have hb := B.bytes
  have hr := B.returns
  have hts := atoms_spec (ws := v_s_X0_walk_k2) B.pre
  have hown : s.vm.findClass RX0 = some m.cls := findClass_of_methodNamed B.named
  have hlocks := B.notSynchronized
  have hinX0 : ∀ w ∈ wsX00, w ∈ v_s_X0_walk_k2 := fun _ h => List.mem_cons_of_mem _ (List.mem_append_right _ (List.mem_append_left _ h))
  have hinX7 : ∀ w ∈ wsX70, w ∈ v_s_X0_walk_k2 := fun _ h => List.mem_cons_of_mem _ (List.mem_append_right _ (List.mem_append_right _ (List.mem_append_left _ h)))
  subst hsz
  have hD := hD0.self (sz := s.heap.size)
  generalize hAe : va_A [(h0, .inr (0, [.ref h1, .ref h2, .ref h3, .ref h4, .ref h5, .ref h6, .int a0, .int a1, .int a2, .int a3])), (h1, .inl (cI, 2520, .inl g0)), (h2, .inl (cI, 2520, .inl g1)), (h4, .inl (cI, 4096, .inl g3)), (h5, .inl (cI, 81, .inl g4)), (h7, .inr (7, [.ref h8, .ref h9, .ref h10, .ref h11, .ref h12, .ref h13, .int a4, .int a5, .int a6, .int a7, .int a8, .int a9, .int a10, .int a11])), (h8, .inl (cI, 9, .inl g6)), (h9, .inl (cI, 9, .inl g7))] s.heap.size = A at hD ⊢
  have hA : ∀ q : Nat, s.heap.size ≤ q → A q := fun q h => by rw [← hAe]; exact Or.inr h
  have hP : va_P (dC, dI) vwCl [(h0, .inr (0, [.ref h1, .ref h2, .ref h3, .ref h4, .ref h5, .ref h6, .int a0, .int a1, .int a2, .int a3])), (h1, .inl (cI, 2520, .inl g0)), (h2, .inl (cI, 2520, .inl g1)), (h4, .inl (cI, 4096, .inl g3)), (h5, .inl (cI, 81, .inl g4)), (h7, .inr (7, [.ref h8, .ref h9, .ref h10, .ref h11, .ref h12, .ref h13, .int a4, .int a5, .int a6, .int a7, .int a8, .int a9, .int a10, .int a11])), (h8, .inl (cI, 9, .inl g6)), (h9, .inl (cI, 9, .inl g7))] s.heap := hP
  have hl := lv_entry ([.ref h0, .ref h7, .int p1, .int p2, .int p3, .int p4]) (n := 9) (Nat.le_of_ble_eq_true rfl)
  rw [lg_entry_eq]
  generalize (lg_sl ([.ref h0, .ref h7, .int p1, .int p2, .int p3, .int p4]) ++ List.replicate (9 - (lg_sl ([.ref h0, .ref h7, .int p1, .int p2, .int p3, .int p4])).length) Slot.unset).toArray = ls at hl ⊢
  have hl : lv_has ls 9 [(0, .ref h0), (1, .ref h7), (2, .int p1), (3, .int p2), (4, .int p3), (5, .int p4)] := hl
  refine W_gen (A := A) hP (fun H locs hP hS => ?_)
  refine lv_iload_n hx hb dX0_walk_0 rfl (lv_at hl 2 rfl) ?_
  have hPc := hP.sub (ws' := []) [] rfl
  have hDc := hD.sub (ws' := []) [] (by decide) rfl
  have hFc := va_free (wc := []) hD hS hA [] rfl
  refine va_calli (va_runS (As := [.int p1]) (rest := []) ⟨hx, hb, hml, hown, hts⟩ (c_s_J6_bitCount_0f7a4_b9 l dC dI cB cI cJ cZ cP p1 (rg_mono hp1 (by decide) (by decide)) H.size) (va_cwS 1 hts (gd_S (List.mem_of_getElem? (i := 1) rfl) (List.mem_of_getElem? (i := 2) rfl) (List.mem_of_getElem? (i := 3) rfl) (gd_mono k_s_J6_bitCount_0f7a4_b9 (fun _ h => List.mem_cons_of_mem _ (List.mem_append_right _ (List.mem_append_right _ (List.mem_append_right _ (List.mem_append_left _ h))))))) rfl rfl rfl (by decide +kernel) ⟨Nat.le_of_ble_eq_true rfl, Nat.le_of_ble_eq_true rfl⟩) ⟨fun a U g mk q => by obtain ⟨q0, q1, qP, qK, qD⟩ := q; exact ⟨q0, q1, qP, va_K.moved (u := U) (U := U.calling g mk a) (Vm.Alike.refl U.vm) qK, qD⟩, fun U hU hW => ⟨rfl, by rw [hU], by rw [hU]; exact hPc, va_K.moved hW.alike hK, hDc.weaken (fun _ _ _ _ => trivial)⟩⟩ rfl rfl hl.1 rfl (lv_room (Nat.le_of_ble_eq_true rfl)) dX0_walk_1 ⟨Nat.le_of_ble_eq_true rfl, Nat.le_of_ble_eq_true rfl⟩) hS (fun q _ h => hFc q h) hFc (fun r_1 u t H1 locs ht hvm hw hB hz1 hk1 hS => ?_)
  obtain ⟨hu9, hw⟩ := hw
  rw [hu9] at hB
  clear hu9
  obtain ⟨k_2, hP1, hD1⟩ := hB
  rw [ht] at hP1
  obtain ⟨hP, hD⟩ := va_join (wr := [(h0, .inr (0, [.ref h1, .ref h2, .ref h3, .ref h4, .ref h5, .ref h6, .int a0, .int a1, .int a2, .int a3])), (h1, .inl (cI, 2520, .inl g0)), (h2, .inl (cI, 2520, .inl g1)), (h4, .inl (cI, 4096, .inl g3)), (h5, .inl (cI, 81, .inl g4)), (h7, .inr (7, [.ref h8, .ref h9, .ref h10, .ref h11, .ref h12, .ref h13, .int a4, .int a5, .int a6, .int a7, .int a8, .int a9, .int a10, .int a11])), (h8, .inl (cI, 9, .inl g6)), (h9, .inl (cI, 9, .inl g7))]) (w1 := []) hP hD [] [0, 1, 2, 3, 4, 5, 6, 7] rfl rfl (by decide) (by decide) hk1 hFc hP1 hD1
  generalize H1 = H at hP hS ⊢
  replace hP : va_P (dC, dI) vwCl [(h0, .inr (0, [.ref h1, .ref h2, .ref h3, .ref h4, .ref h5, .ref h6, .int a0, .int a1, .int a2, .int a3])), (h1, .inl (cI, 2520, .inl g0)), (h2, .inl (cI, 2520, .inl g1)), (h4, .inl (cI, 4096, .inl g3)), (h5, .inl (cI, 81, .inl g4)), (h7, .inr (7, [.ref h8, .ref h9, .ref h10, .ref h11, .ref h12, .ref h13, .int a4, .int a5, .int a6, .int a7, .int a8, .int a9, .int a10, .int a11])), (h8, .inl (cI, 9, .inl g6)), (h9, .inl (cI, 9, .inl g7))] H := hP
  replace hD : va_D A [(h0, .inr (0, [.ref h1, .ref h2, .ref h3, .ref h4, .ref h5, .ref h6, .int a0, .int a1, .int a2, .int a3])), (h1, .inl (cI, 2520, .inl g0)), (h2, .inl (cI, 2520, .inl g1)), (h4, .inl (cI, 4096, .inl g3)), (h5, .inl (cI, 81, .inl g4)), (h7, .inr (7, [.ref h8, .ref h9, .ref h10, .ref h11, .ref h12, .ref h13, .int a4, .int a5, .int a6, .int a7, .int a8, .int a9, .int a10, .int a11])), (h8, .inl (cI, 9, .inl g6)), (h9, .inl (cI, 9, .inl g7))] := hD
  have hr_1 : rg (0) (9) r_1 := hw.1
  have kr_1_0 : rg (0) (8) r_1 → rg (0) (510) p1 := hw.2
  refine tp_v (.int 2) (congrArg Value.int (k_2.trans kr1)) ?_
  refine lv_istore (lv' := [(6, .int 2), (0, .ref h0), (1, .ref h7), (2, .int p1), (3, .int p2), (4, .int p3), (5, .int p4)]) hx hb dX0_walk_4 hl (by decide) rfl (fun ls hl => ?_)
  refine lv_iload hx hb dX0_walk_6 (lv_at hl 0 rfl) ?_
  refine lv_aload_n hx hb dX0_walk_8 rfl (lv_at hl 1 rfl) ?_
  refine va_get (D := (dC, dI)) (ci := 0) (v := .int a2) (C := RX0) (T := TX0) (N := 10) hx hb hts hinX0 hown hK hP 0 rfl rfl 8 (by decide) (hts (.fieldLink RX0 37 "MayRings$Families" "size" "I") (List.mem_of_getElem? (i := 4) rfl)) (fun _ h9 => h9) rfl dX0_walk_9 ?_
  refine lv_icmp_lt (tgt := 26) hx hb dX0_walk_12 (by decide) (fun c_3 => ?_) (fun c_3 => ?_)
  · skip
    have h_4 : rg (3) (7) a2 := by have ha := (rg_k (x := 2) (c := 2) (by decide)); have hb_ := ha2; simp only [rg, fa_lt, fa_le, fa_eq, (by decide : (2 : Int32).toInt = 2)] at ha hb_ c_3; simp only [rg]; omega
    refine lv_aload_n hx hb dX0_walk_26 rfl (lv_at hl 2 rfl) ?_
    refine va_get (D := (dC, dI)) (ci := 7) (v := .ref h8) (C := RX7) (T := TX7) (N := 14) hx hb hts hinX7 hown hK hP 5 rfl rfl 0 (by decide) (hts (.fieldLink RX0 67 "MayRings$Ways" "ground" "[I") (List.mem_of_getElem? (i := 5) rfl)) (fun _ h9 => h9) rfl dX0_walk_27 ?_
    refine lv_iload hx hb dX0_walk_30 (lv_at hl 0 rfl) ?_
    refine va_iald hx hb hK hP 6 1 rfl rfl (rg_in (n := 9) (rg_mono (rg_k (x := 2) (c := 2) (by decide)) (by decide) (by decide))) dX0_walk_32 ?_
    refine lv_topi (fun x_5 ex_5 => ?_)
    have hx_5 : rg (0) (511) x_5 := by rw [ex_5]; exact rg_mono (hg6 _) (by decide) (by decide)
    refine lv_aload_n hx hb dX0_walk_33 rfl (lv_at hl 2 rfl) ?_
    refine va_get (D := (dC, dI)) (ci := 7) (v := .ref h9) (C := RX7) (T := TX7) (N := 14) hx hb hts hinX7 hown hK hP 5 rfl rfl 1 (by decide) (hts (.fieldLink RX0 78 "MayRings$Ways" "pairs" "[I") (List.mem_of_getElem? (i := 6) rfl)) (fun _ h9 => h9) rfl dX0_walk_34 ?_
    refine lv_iload_n hx hb dX0_walk_37 rfl (lv_at hl 4 rfl) ?_
    refine va_iald hx hb hK hP 7 1 rfl rfl (rg_in (n := 9) (rg_mono hp2 (by decide) (by decide))) dX0_walk_38 ?_
    refine lv_topi (fun x_6 ex_6 => ?_)
    have hx_6 : rg (0) (511) x_6 := by rw [ex_6]; exact rg_mono (hg7 _) (by decide) (by decide)
    refine lv_iand hx hb dX0_walk_39 ?_
    refine lv_topi (fun x_7 ex_7 => ?_)
    have hx_7 : rg (0) (511) x_7 := by rw [ex_7]; exact rg_mono (rg_andl (b := 511) (rg_mono hx_5 (by decide) (by decide))) (by decide) (by decide)
    have kx_7_0 : rg 1 2147483647 x_7 → rg 1 (511) x_5 := fun hq => rg_andP hx_5 (ex_7 ▸ hq)
    have kx_7_1 : rg 1 2147483647 x_7 → rg 1 (511) x_6 := fun hq => rg_andP' hx_6 (ex_7 ▸ hq)
    refine lv_iload_n hx hb dX0_walk_40 rfl (lv_at hl 3 rfl) ?_
    refine lv_iconst (v := (-1)) hx hb dX0_walk_41 (by decide) ?_
    refine lv_ixor hx hb dX0_walk_42 ?_
    refine lv_topi (fun x_8 ex_8 => ?_)
    refine lv_iand hx hb dX0_walk_43 ?_
    refine lv_topi (fun x_9 ex_9 => ?_)
    have hx_9 : rg (0) (511) x_9 := by rw [ex_9]; exact rg_mono (rg_andl (b := 511) (rg_mono hx_7 (by decide) (by decide))) (by decide) (by decide)
    have kx_9_0 : rg 1 2147483647 x_9 → rg 1 (511) x_7 := fun hq => rg_andP hx_7 (ex_9 ▸ hq)
    refine lv_istore (lv' := [(7, .int x_9), (6, .int 2), (0, .ref h0), (1, .ref h7), (2, .int p1), (3, .int p2), (4, .int p3), (5, .int p4)]) hx hb dX0_walk_44 hl (by decide) rfl (fun ls hl => ?_)
    refine lv_iconst (v := 0) hx hb dX0_walk_46 (by decide) ?_
    refine lv_istore (lv' := [(8, .int 0), (7, .int x_9), (6, .int 2), (0, .ref h0), (1, .ref h7), (2, .int p1), (3, .int p2), (4, .int p3), (5, .int p4)]) hx hb dX0_walk_47 hl (by decide) rfl (fun ls hl => ?_)
    refine W_loopM (σ := Int32 × (Nat → Int32) × (Nat → Int32) × (Nat → Int32) × Int32 × Int32) (fun u H locs ls => va_P (dC, dI) vwCl [(h0, .inr (0, [.ref h1, .ref h2, .ref h3, .ref h4, .ref h5, .ref h6, .int u.2.2.2.2.1, .int a1, .int a2, .int u.2.2.2.2.2])), (h1, .inl (cI, 2520, .inl u.2.1)), (h2, .inl (cI, 2520, .inl u.2.2.1)), (h4, .inl (cI, 4096, .inl u.2.2.2.1)), (h5, .inl (cI, 81, .inl g4)), (h7, .inr (7, [.ref h8, .ref h9, .ref h10, .ref h11, .ref h12, .ref h13, .int a4, .int a5, .int a6, .int a7, .int a8, .int a9, .int a10, .int a11])), (h8, .inl (cI, 9, .inl g6)), (h9, .inl (cI, 9, .inl g7))] H ∧ va_D A [(h0, .inr (0, [.ref h1, .ref h2, .ref h3, .ref h4, .ref h5, .ref h6, .int u.2.2.2.2.1, .int a1, .int a2, .int u.2.2.2.2.2])), (h1, .inl (cI, 2520, .inl u.2.1)), (h2, .inl (cI, 2520, .inl u.2.2.1)), (h4, .inl (cI, 4096, .inl u.2.2.2.1)), (h5, .inl (cI, 81, .inl g4)), (h7, .inr (7, [.ref h8, .ref h9, .ref h10, .ref h11, .ref h12, .ref h13, .int a4, .int a5, .int a6, .int a7, .int a8, .int a9, .int a10, .int a11])), (h8, .inl (cI, 9, .inl g6)), (h9, .inl (cI, 9, .inl g7))] ∧ va_S A s.heap H locs ∧ lv_has ls 9 [(8, .int u.1), (7, .int x_9), (6, .int 2), (0, .ref h0), (1, .ref h7), (2, .int p1), (3, .int p2), (4, .int p3), (5, .int p4)] ∧ rg (0) (9) u.1 ∧ rg (0) (2520) u.2.2.2.2.1 ∧ (nbA u.2.2.1)) (fun u => ((9) - u.1.toInt).toNat) 49 [] ?_ (0, g0, g1, g3, a0, a3) H locs ls ⟨hP, hD, hS, hl, (rg_mono (rg_k (x := 0) (c := 0) (by decide)) (by decide) (by decide)), (rg_mono ha0 (by decide) (by decide)), kr0⟩
    rintro ⟨x_305, f_306, f_307, f_308, x_309, x_310⟩ H locs ls ⟨hP, hD, hS, hl, hx_305, hx_309, kl49_310_0⟩ ih_341
    replace kl49_310_0 : nbA f_307 := kl49_310_0
    replace hP : va_P (dC, dI) vwCl [(h0, .inr (0, [.ref h1, .ref h2, .ref h3, .ref h4, .ref h5, .ref h6, .int x_309, .int a1, .int a2, .int x_310])), (h1, .inl (cI, 2520, .inl f_306)), (h2, .inl (cI, 2520, .inl f_307)), (h4, .inl (cI, 4096, .inl f_308)), (h5, .inl (cI, 81, .inl g4)), (h7, .inr (7, [.ref h8, .ref h9, .ref h10, .ref h11, .ref h12, .ref h13, .int a4, .int a5, .int a6, .int a7, .int a8, .int a9, .int a10, .int a11])), (h8, .inl (cI, 9, .inl g6)), (h9, .inl (cI, 9, .inl g7))] H := hP
    replace hD : va_D A [(h0, .inr (0, [.ref h1, .ref h2, .ref h3, .ref h4, .ref h5, .ref h6, .int x_309, .int a1, .int a2, .int x_310])), (h1, .inl (cI, 2520, .inl f_306)), (h2, .inl (cI, 2520, .inl f_307)), (h4, .inl (cI, 4096, .inl f_308)), (h5, .inl (cI, 81, .inl g4)), (h7, .inr (7, [.ref h8, .ref h9, .ref h10, .ref h11, .ref h12, .ref h13, .int a4, .int a5, .int a6, .int a7, .int a8, .int a9, .int a10, .int a11])), (h8, .inl (cI, 9, .inl g6)), (h9, .inl (cI, 9, .inl g7))] := hD
    replace hl : lv_has ls 9 [(8, .int x_305), (7, .int x_9), (6, .int 2), (0, .ref h0), (1, .ref h7), (2, .int p1), (3, .int p2), (4, .int p3), (5, .int p4)] := hl
    replace hx_305 : rg (0) (9) x_305 := hx_305
    replace hx_309 : rg (0) (2520) x_309 := hx_309
    refine lv_iload hx hb dX0_walk_49 (lv_at hl 0 rfl) ?_
    refine lv_bipush (v := 9) hx hb dX0_walk_51 (by decide) ?_
    refine lv_icmp_ge (tgt := 111) hx hb dX0_walk_53 (by decide) (fun c_342 => ?_) (fun c_342 => ?_)
    · skip
      have h_343 : rg (9) (9) x_305 := by have ha := hx_305; have hb_ := (rg_k (x := 9) (c := 9) (by decide)); simp only [rg, fa_lt, fa_le, fa_eq, (by decide : (9 : Int32).toInt = 9)] at ha hb_ c_342; simp only [rg]; omega
      have hP9 := hP.sub (ws' := [(h0, .inr (0, [.ref h1, .ref h2, .ref h3, .ref h4, .ref h5, .ref h6, .int x_309, .int a1, .int a2, .int x_310])), (h1, .inl (cI, 2520, .inl f_306)), (h2, .inl (cI, 2520, .inl f_307)), (h4, .inl (cI, 4096, .inl f_308)), (h5, .inl (cI, 81, .inl g4)), (h7, .inr (7, [.ref h8, .ref h9, .ref h10, .ref h11, .ref h12, .ref h13, .int a4, .int a5, .int a6, .int a7, .int a8, .int a9, .int a10, .int a11])), (h8, .inl (cI, 9, .inl g6)), (h9, .inl (cI, 9, .inl g7))]) [0, 1, 2, 3, 4, 5, 6, 7] rfl
      have hD9 := hD.sub (ws' := [(h0, .inr (0, [.ref h1, .ref h2, .ref h3, .ref h4, .ref h5, .ref h6, .int x_309, .int a1, .int a2, .int x_310])), (h1, .inl (cI, 2520, .inl f_306)), (h2, .inl (cI, 2520, .inl f_307)), (h4, .inl (cI, 4096, .inl f_308)), (h5, .inl (cI, 81, .inl g4)), (h7, .inr (7, [.ref h8, .ref h9, .ref h10, .ref h11, .ref h12, .ref h13, .int a4, .int a5, .int a6, .int a7, .int a8, .int a9, .int a10, .int a11])), (h8, .inl (cI, 9, .inl g6)), (h9, .inl (cI, 9, .inl g7))]) [0, 1, 2, 3, 4, 5, 6, 7] (by decide) rfl
      exact W.vret hx hb hr (fun t ht hW => ⟨⟨(), rfl, trivial, ⟨x_309, x_310, f_306, f_307, f_308, (rg_mono hx_309 (by decide) (by decide)), kl49_310_0, by rw [ht]; exact hP9, hD9⟩⟩, hS.F ht⟩) hS.2.2 dX0_walk_111
    · skip
      have h_344 : rg (0) (8) x_305 := by have ha := hx_305; have hb_ := (rg_k (x := 9) (c := 9) (by decide)); simp only [rg, fa_lt, fa_le, fa_eq, (by decide : (9 : Int32).toInt = 9)] at ha hb_ c_342; simp only [rg]; omega
      refine lv_iload hx hb dX0_walk_56 (lv_at hl 1 rfl) ?_
      refine lv_iload hx hb dX0_walk_58 (lv_at hl 0 rfl) ?_
      refine lv_ishr hx hb dX0_walk_60 ?_
      refine lv_topi (fun x_345 ex_345 => ?_)
      have hx_345 : rg (0) (511) x_345 := by rw [ex_345]; exact rg_mono (rg_shr (b := 511) (rg_mono hx_9 (by decide) (by decide))) (by decide) (by decide)
      have kx_345_0 : rg 1 2147483647 x_345 → rg 1 (511) x_9 := fun hq => rg_shrP hx_9 (ex_345 ▸ hq)
      refine lv_iconst (v := 1) hx hb dX0_walk_61 (by decide) ?_
      refine lv_iand hx hb dX0_walk_62 ?_
      refine lv_topi (fun x_346 ex_346 => ?_)
      have hx_346 : rg (0) (1) x_346 := by rw [ex_346]; exact rg_mono (rg_andr (b := 1) (rg_mono (rg_k (x := 1) (c := 1) (by decide)) (by decide) (by decide))) (by decide) (by decide)
      have kx_346_0 : rg 1 2147483647 x_346 → rg 1 (511) x_345 := fun hq => rg_andP hx_345 (ex_346 ▸ hq)
      refine lv_iconst (v := 1) hx hb dX0_walk_63 (by decide) ?_
      refine lv_icmp_ne (tgt := 105) hx hb dX0_walk_64 (by decide) (fun c_347 => ?_) (fun c_347 => ?_)
      · skip
        have h_348 : rg (0) (0) x_346 := by have ha := hx_346; have hb_ := (rg_k (x := 1) (c := 1) (by decide)); simp only [rg, fa_lt, fa_le, fa_eq, (by decide : (1 : Int32).toInt = 1)] at ha hb_ c_347; simp only [rg]; omega
        obtain ⟨x_349, ex_349⟩ : ∃ y : Int32, y = x_305 + Int32.ofInt (1) := ⟨_, rfl⟩
        have hx_349 : rg (1) (9) x_349 := by rw [ex_349]; exact rg_mono (rg_add h_344 (rg_k (x := Int32.ofInt (1)) (c := 1) (by decide)) (by decide) (by decide)) (by decide) (by decide)
        have qx_349 : x_349.toInt = x_305.toInt + (1) := by rw [ex_349]; exact rg_addE h_344 (rg_k (x := Int32.ofInt (1)) (c := 1) (by decide)) (by decide) (by decide) (by decide)
        refine lv_iinc (v := x_349) (lv' := [(8, .int x_349), (7, .int x_9), (6, .int 2), (0, .ref h0), (1, .ref h7), (2, .int p1), (3, .int p2), (4, .int p3), (5, .int p4)]) hx hb dX0_walk_105 hl (k := 0) rfl (ex_349.symm) (by decide) rfl (fun ls hl => ?_)
        clear ex_349
        refine lv_goto (tgt := 49) hx hb dX0_walk_108 (by decide) ?_
        exact ih_341 (x_349, f_306, f_307, f_308, x_309, x_310) H locs ls ⟨hP.sub (ws' := [(h0, .inr (0, [.ref h1, .ref h2, .ref h3, .ref h4, .ref h5, .ref h6, .int x_309, .int a1, .int a2, .int x_310])), (h1, .inl (cI, 2520, .inl f_306)), (h2, .inl (cI, 2520, .inl f_307)), (h4, .inl (cI, 4096, .inl f_308)), (h5, .inl (cI, 81, .inl g4)), (h7, .inr (7, [.ref h8, .ref h9, .ref h10, .ref h11, .ref h12, .ref h13, .int a4, .int a5, .int a6, .int a7, .int a8, .int a9, .int a10, .int a11])), (h8, .inl (cI, 9, .inl g6)), (h9, .inl (cI, 9, .inl g7))]) [0, 1, 2, 3, 4, 5, 6, 7] rfl, hD.sub (ws' := [(h0, .inr (0, [.ref h1, .ref h2, .ref h3, .ref h4, .ref h5, .ref h6, .int x_309, .int a1, .int a2, .int x_310])), (h1, .inl (cI, 2520, .inl f_306)), (h2, .inl (cI, 2520, .inl f_307)), (h4, .inl (cI, 4096, .inl f_308)), (h5, .inl (cI, 81, .inl g4)), (h7, .inr (7, [.ref h8, .ref h9, .ref h10, .ref h11, .ref h12, .ref h13, .int a4, .int a5, .int a6, .int a7, .int a8, .int a9, .int a10, .int a11])), (h8, .inl (cI, 9, .inl g6)), (h9, .inl (cI, 9, .inl g7))]) [0, 1, 2, 3, 4, 5, 6, 7] (by decide) rfl, hS, lv_sub hl [0, 1, 2, 3, 4, 5, 6, 7, 8] rfl, (rg_mono hx_349 (by decide) (by decide)), (rg_mono hx_309 (by decide) (by decide)), kl49_310_0⟩ (by show ((9) - x_349.toInt).toNat < ((9) - x_305.toInt).toNat; have ha := h_344; simp only [rg] at ha; omega)
      · skip
        have h_350 : rg (1) (1) x_346 := by have ha := hx_346; have hb_ := (rg_k (x := 1) (c := 1) (by decide)); simp only [rg, fa_lt, fa_le, fa_eq, (by decide : (1 : Int32).toInt = 1)] at ha hb_ c_347; simp only [rg]; omega
        have h_351 : rg (1) (511) x_345 := rg_meet hx_345 (kx_346_0 (rg_mono h_350 (by decide) (by decide))) (by decide) (by decide)
        have h_352 : rg (1) (511) x_9 := rg_meet hx_9 (kx_345_0 (rg_mono h_351 (by decide) (by decide))) (by decide) (by decide)
        have h_353 : rg (1) (511) x_7 := rg_meet hx_7 (kx_9_0 (rg_mono h_352 (by decide) (by decide))) (by decide) (by decide)
        have h_354 : rg (1) (511) x_5 := rg_meet hx_5 (kx_7_0 (rg_mono h_353 (by decide) (by decide))) (by decide) (by decide)
        have h_355 : rg (1) (511) x_6 := rg_meet hx_6 (kx_7_1 (rg_mono h_353 (by decide) (by decide))) (by decide) (by decide)
        refine lv_aload_n hx hb dX0_walk_67 rfl (lv_at hl 3 rfl) ?_
        refine lv_aload_n hx hb dX0_walk_68 rfl (lv_at hl 4 rfl) ?_
        refine lv_iload_n hx hb dX0_walk_69 rfl (lv_at hl 5 rfl) ?_
        refine lv_iconst (v := 1) hx hb dX0_walk_70 (by decide) ?_
        refine lv_iload hx hb dX0_walk_71 (lv_at hl 0 rfl) ?_
        refine lv_ishl hx hb dX0_walk_73 ?_
        refine lv_topi (fun x_356 ex_356 => ?_)
        have hx_356 : rg (1) (256) x_356 := by rw [ex_356]; exact rg_mono (rg_shl1 8 (rg_mono h_344 (by decide) (by decide)) (by decide)) (by decide) (by decide)
        refine lv_ior hx hb dX0_walk_74 ?_
        refine lv_topi (fun x_357 ex_357 => ?_)
        have hx_357 : rg (0) (511) x_357 := by rw [ex_357]; exact rg_mono (rg_or 9 (rg_mono hp1 (by decide) (by decide)) (rg_mono hx_356 (by decide) (by decide)) (by decide)) (by decide) (by decide)
        refine lv_iload hx hb dX0_walk_75 (lv_at hl 0 rfl) ?_
        refine lv_iload hx hb dX0_walk_77 (lv_at hl 7 rfl) ?_
        refine lv_aload_n hx hb dX0_walk_79 rfl (lv_at hl 3 rfl) ?_
        refine va_get (D := (dC, dI)) (ci := 0) (v := .ref h5) (C := RX0) (T := TX0) (N := 10) hx hb hts hinX0 hown hK hP 0 rfl rfl 4 (by decide) (hts (.fieldLink RX0 24 "MayRings$Families" "bits" "[I") (List.mem_of_getElem? (i := 7) rfl)) (fun _ h9 => h9) rfl dX0_walk_80 ?_
        refine lv_iload_n hx hb dX0_walk_83 rfl (lv_at hl 6 rfl) ?_
        refine lv_bipush (v := 9) hx hb dX0_walk_84 (by decide) ?_
        refine lv_imul hx hb dX0_walk_86 ?_
        refine lv_topi (fun x_358 ex_358 => ?_)
        have hx_358 : rg (0) (72) x_358 := by rw [ex_358]; exact rg_mono (rg_mul hp2 (rg_k (x := 9) (c := 9) (by decide)) (by decide) (by decide) (by decide)) (by decide) (by decide)
        refine lv_iload hx hb dX0_walk_87 (lv_at hl 0 rfl) ?_
        refine lv_iadd hx hb dX0_walk_89 ?_
        refine lv_topi (fun x_359 ex_359 => ?_)
        have hx_359 : rg (0) (80) x_359 := by rw [ex_359]; exact rg_mono (rg_add hx_358 h_344 (by decide) (by decide)) (by decide) (by decide)
        have qx_359 : x_359.toInt = x_358.toInt + x_305.toInt := by rw [ex_359]; exact rg_addQ hx_358 h_344 (by decide) (by decide)
        refine va_iald hx hb hK hP 4 1 rfl rfl (rg_in (n := 81) (rg_mono hx_359 (by decide) (by decide))) dX0_walk_90 ?_
        refine lv_topi (fun x_360 ex_360 => ?_)
        refine lv_ior hx hb dX0_walk_91 ?_
        refine lv_topi (fun x_361 ex_361 => ?_)
        refine lv_iload hx hb dX0_walk_92 (lv_at hl 8 rfl) ?_
        refine lv_iload hx hb dX0_walk_94 (lv_at hl 0 rfl) ?_
        refine lv_iconst (v := 4) hx hb dX0_walk_96 (by decide) ?_
        refine lv_iload hx hb dX0_walk_97 (lv_at hl 2 rfl) ?_
        refine lv_imul hx hb dX0_walk_99 ?_
        refine tp_v (.int 8) (congrArg Value.int (by decide)) ?_
        refine lv_ishl hx hb dX0_walk_100 ?_
        refine lv_topi (fun x_362 ex_362 => ?_)
        refine lv_ior hx hb dX0_walk_101 ?_
        refine lv_topi (fun x_363 ex_363 => ?_)
        have hPc := hP.sub (ws' := [(h0, .inr (0, [.ref h1, .ref h2, .ref h3, .ref h4, .ref h5, .ref h6, .int x_309, .int a1, .int a2, .int x_310])), (h1, .inl (cI, 2520, .inl f_306)), (h2, .inl (cI, 2520, .inl f_307)), (h4, .inl (cI, 4096, .inl f_308)), (h5, .inl (cI, 81, .inl g4)), (h7, .inr (7, [.ref h8, .ref h9, .ref h10, .ref h11, .ref h12, .ref h13, .int a4, .int a5, .int a6, .int a7, .int a8, .int a9, .int a10, .int a11])), (h8, .inl (cI, 9, .inl g6)), (h9, .inl (cI, 9, .inl g7))]) [0, 1, 2, 3, 4, 5, 6, 7] rfl
        have hDc := hD.sub (ws' := [(h0, .inr (0, [.ref h1, .ref h2, .ref h3, .ref h4, .ref h5, .ref h6, .int x_309, .int a1, .int a2, .int x_310])), (h1, .inl (cI, 2520, .inl f_306)), (h2, .inl (cI, 2520, .inl f_307)), (h4, .inl (cI, 4096, .inl f_308)), (h5, .inl (cI, 81, .inl g4)), (h7, .inr (7, [.ref h8, .ref h9, .ref h10, .ref h11, .ref h12, .ref h13, .int a4, .int a5, .int a6, .int a7, .int a8, .int a9, .int a10, .int a11])), (h8, .inl (cI, 9, .inl g6)), (h9, .inl (cI, 9, .inl g7))]) [0, 1, 2, 3, 4, 5, 6, 7] (by decide) rfl
        have hFc := va_free (wc := [(h0, .inr (0, [.ref h1, .ref h2, .ref h3, .ref h4, .ref h5, .ref h6, .int x_309, .int a1, .int a2, .int x_310])), (h1, .inl (cI, 2520, .inl f_306)), (h2, .inl (cI, 2520, .inl f_307)), (h4, .inl (cI, 4096, .inl f_308)), (h5, .inl (cI, 81, .inl g4)), (h7, .inr (7, [.ref h8, .ref h9, .ref h10, .ref h11, .ref h12, .ref h13, .int a4, .int a5, .int a6, .int a7, .int a8, .int a9, .int a10, .int a11])), (h8, .inl (cI, 9, .inl g6)), (h9, .inl (cI, 9, .inl g7))]) hD hS hA [0, 1, 2, 3, 4, 5, 6, 7] rfl
        refine va_callv (va_runV (As := [.ref h7, .int x_357, .int x_305, .int x_361, .int x_363]) (rest := []) ⟨hx, hb, hml, hown, hts⟩ (c_s_X0_walk_k3 l dC dI cB cI cJ cZ cP h0 h1 f_306 h2 f_307 h3 h4 f_308 h5 g4 h6 x_309 (rg_mono hx_309 (by decide) (by decide)) a1 a2 (rg_mono h_4 (by decide) (by decide)) x_310 h7 h8 g6 hg6 h9 g7 hg7 h10 h11 h12 h13 a4 a5 a6 (rg_mono ha6 (by decide) (by decide)) a7 a8 a9 a10 a11 x_357 (rg_mono hx_357 (by decide) (by decide)) x_305 (rg_mono h_344 (by decide) (by decide)) x_361 x_363 kl49_310_0 (show bcE x_357 = 3 from (by rw [ex_357, ex_356]; exact bc_step (rg_mono hp1 (by decide) (by decide)) (rg_mono h_344 (by decide) (by decide)) (ex_9.trans (by rw [ex_8])) (by rw [← ex_345, ← ex_346]; exact c_347) kr1 (by decide))) (show nbk 3 x_363 from (by rw [ex_363, ex_362]; exact nbk_step 2 kr2 (rg_mono h_344 (by decide) (by decide)) (by decide) (by decide))) H.size) (cwV 5 hts (gd_V (List.mem_of_getElem? (i := 8) rfl) (List.mem_of_getElem? (i := 9) rfl) (List.mem_of_getElem? (i := 10) rfl) (List.mem_of_getElem? (i := 11) rfl) (gd_mono k_s_X0_walk_k3 (fun _ h => List.mem_cons_of_mem _ (List.mem_append_right _ (List.mem_append_right _ (List.mem_append_right _ (List.mem_append_right _ (List.mem_append_left _ h)))))))) rfl rfl rfl (by decide +kernel) ⟨Nat.le_of_ble_eq_true rfl, Nat.le_of_ble_eq_true rfl⟩) ⟨fun a U g mk q => by obtain ⟨q0, q1, qP, qK, qD⟩ := q; exact ⟨q0, q1, qP, va_K.moved (u := U) (U := U.calling g mk a) (Vm.Alike.refl U.vm) qK, qD⟩, va_recv hK hPc (ci := 0) (q0 := 0) rfl rfl, fun U hU hW => ⟨rfl, by rw [hU], by rw [hU]; exact hPc, va_K.moved hW.alike hK, hDc.weaken (fun _ _ _ _ => trivial)⟩⟩ rfl rfl hl.1 rfl (lv_room (Nat.le_of_ble_eq_true rfl)) dX0_walk_102 ⟨Nat.le_of_ble_eq_true rfl, Nat.le_of_ble_eq_true rfl⟩) hS (fun q _ h => hFc q h) hFc (fun u t H1 locs ht hvm hw hB hz1 hk1 hS => ?_)
        obtain ⟨x_365, x_366, f_367, f_368, f_369, hx_365, k_370, hP1, hD1⟩ := hB
        rw [ht] at hP1
        obtain ⟨hP, hD⟩ := va_join (wr := []) (w1 := [(h0, .inr (0, [.ref h1, .ref h2, .ref h3, .ref h4, .ref h5, .ref h6, .int x_365, .int a1, .int a2, .int x_366])), (h1, .inl (cI, 2520, .inl f_367)), (h2, .inl (cI, 2520, .inl f_368)), (h4, .inl (cI, 4096, .inl f_369)), (h5, .inl (cI, 81, .inl g4)), (h7, .inr (7, [.ref h8, .ref h9, .ref h10, .ref h11, .ref h12, .ref h13, .int a4, .int a5, .int a6, .int a7, .int a8, .int a9, .int a10, .int a11])), (h8, .inl (cI, 9, .inl g6)), (h9, .inl (cI, 9, .inl g7))]) hP hD [0, 1, 2, 3, 4, 5, 6, 7] [] rfl rfl (by decide) (by decide) hk1 hFc hP1 hD1
        generalize H1 = H at hP hS ⊢
        replace hP : va_P (dC, dI) vwCl [(h0, .inr (0, [.ref h1, .ref h2, .ref h3, .ref h4, .ref h5, .ref h6, .int x_365, .int a1, .int a2, .int x_366])), (h1, .inl (cI, 2520, .inl f_367)), (h2, .inl (cI, 2520, .inl f_368)), (h4, .inl (cI, 4096, .inl f_369)), (h5, .inl (cI, 81, .inl g4)), (h7, .inr (7, [.ref h8, .ref h9, .ref h10, .ref h11, .ref h12, .ref h13, .int a4, .int a5, .int a6, .int a7, .int a8, .int a9, .int a10, .int a11])), (h8, .inl (cI, 9, .inl g6)), (h9, .inl (cI, 9, .inl g7))] H := hP
        replace hD : va_D A [(h0, .inr (0, [.ref h1, .ref h2, .ref h3, .ref h4, .ref h5, .ref h6, .int x_365, .int a1, .int a2, .int x_366])), (h1, .inl (cI, 2520, .inl f_367)), (h2, .inl (cI, 2520, .inl f_368)), (h4, .inl (cI, 4096, .inl f_369)), (h5, .inl (cI, 81, .inl g4)), (h7, .inr (7, [.ref h8, .ref h9, .ref h10, .ref h11, .ref h12, .ref h13, .int a4, .int a5, .int a6, .int a7, .int a8, .int a9, .int a10, .int a11])), (h8, .inl (cI, 9, .inl g6)), (h9, .inl (cI, 9, .inl g7))] := hD
        obtain ⟨x_371, ex_371⟩ : ∃ y : Int32, y = x_305 + Int32.ofInt (1) := ⟨_, rfl⟩
        have hx_371 : rg (1) (9) x_371 := by rw [ex_371]; exact rg_mono (rg_add h_344 (rg_k (x := Int32.ofInt (1)) (c := 1) (by decide)) (by decide) (by decide)) (by decide) (by decide)
        have qx_371 : x_371.toInt = x_305.toInt + (1) := by rw [ex_371]; exact rg_addE h_344 (rg_k (x := Int32.ofInt (1)) (c := 1) (by decide)) (by decide) (by decide) (by decide)
        refine lv_iinc (v := x_371) (lv' := [(8, .int x_371), (7, .int x_9), (6, .int 2), (0, .ref h0), (1, .ref h7), (2, .int p1), (3, .int p2), (4, .int p3), (5, .int p4)]) hx hb dX0_walk_105 hl (k := 0) rfl (ex_371.symm) (by decide) rfl (fun ls hl => ?_)
        clear ex_371
        refine lv_goto (tgt := 49) hx hb dX0_walk_108 (by decide) ?_
        exact ih_341 (x_371, f_367, f_368, f_369, x_365, x_366) H locs ls ⟨hP.sub (ws' := [(h0, .inr (0, [.ref h1, .ref h2, .ref h3, .ref h4, .ref h5, .ref h6, .int x_365, .int a1, .int a2, .int x_366])), (h1, .inl (cI, 2520, .inl f_367)), (h2, .inl (cI, 2520, .inl f_368)), (h4, .inl (cI, 4096, .inl f_369)), (h5, .inl (cI, 81, .inl g4)), (h7, .inr (7, [.ref h8, .ref h9, .ref h10, .ref h11, .ref h12, .ref h13, .int a4, .int a5, .int a6, .int a7, .int a8, .int a9, .int a10, .int a11])), (h8, .inl (cI, 9, .inl g6)), (h9, .inl (cI, 9, .inl g7))]) [0, 1, 2, 3, 4, 5, 6, 7] rfl, hD.sub (ws' := [(h0, .inr (0, [.ref h1, .ref h2, .ref h3, .ref h4, .ref h5, .ref h6, .int x_365, .int a1, .int a2, .int x_366])), (h1, .inl (cI, 2520, .inl f_367)), (h2, .inl (cI, 2520, .inl f_368)), (h4, .inl (cI, 4096, .inl f_369)), (h5, .inl (cI, 81, .inl g4)), (h7, .inr (7, [.ref h8, .ref h9, .ref h10, .ref h11, .ref h12, .ref h13, .int a4, .int a5, .int a6, .int a7, .int a8, .int a9, .int a10, .int a11])), (h8, .inl (cI, 9, .inl g6)), (h9, .inl (cI, 9, .inl g7))]) [0, 1, 2, 3, 4, 5, 6, 7] (by decide) rfl, hS, lv_sub hl [0, 1, 2, 3, 4, 5, 6, 7, 8] rfl, (rg_mono hx_371 (by decide) (by decide)), (rg_mono hx_365 (by decide) (by decide)), k_370⟩ (by show ((9) - x_371.toInt).toNat < ((9) - x_305.toInt).toNat; have ha := h_344; simp only [rg] at ha; omega)
  · skip
    have h_372 : rg (1) (2) a2 := by have ha := (rg_k (x := 2) (c := 2) (by decide)); have hb_ := ha2; simp only [rg, fa_lt, fa_le, fa_eq, (by decide : (2 : Int32).toInt = 2)] at ha hb_ c_3; simp only [rg]; omega
    refine lv_aload_n hx hb dX0_walk_15 rfl (lv_at hl 1 rfl) ?_
    refine lv_aload_n hx hb dX0_walk_16 rfl (lv_at hl 2 rfl) ?_
    refine lv_iload_n hx hb dX0_walk_17 rfl (lv_at hl 4 rfl) ?_
    refine lv_iload hx hb dX0_walk_18 (lv_at hl 5 rfl) ?_
    refine lv_iload hx hb dX0_walk_20 (lv_at hl 6 rfl) ?_
    have hPc := hP.sub (ws' := [(h0, .inr (0, [.ref h1, .ref h2, .ref h3, .ref h4, .ref h5, .ref h6, .int a0, .int a1, .int a2, .int a3])), (h1, .inl (cI, 2520, .inl g0)), (h2, .inl (cI, 2520, .inl g1)), (h4, .inl (cI, 4096, .inl g3)), (h5, .inl (cI, 81, .inl g4)), (h7, .inr (7, [.ref h8, .ref h9, .ref h10, .ref h11, .ref h12, .ref h13, .int a4, .int a5, .int a6, .int a7, .int a8, .int a9, .int a10, .int a11])), (h9, .inl (cI, 9, .inl g7))]) [0, 1, 2, 3, 4, 5, 7] rfl
    have hDc := hD.sub (ws' := [(h0, .inr (0, [.ref h1, .ref h2, .ref h3, .ref h4, .ref h5, .ref h6, .int a0, .int a1, .int a2, .int a3])), (h1, .inl (cI, 2520, .inl g0)), (h2, .inl (cI, 2520, .inl g1)), (h4, .inl (cI, 4096, .inl g3)), (h5, .inl (cI, 81, .inl g4)), (h7, .inr (7, [.ref h8, .ref h9, .ref h10, .ref h11, .ref h12, .ref h13, .int a4, .int a5, .int a6, .int a7, .int a8, .int a9, .int a10, .int a11])), (h9, .inl (cI, 9, .inl g7))]) [0, 1, 2, 3, 4, 5, 7] (by decide) rfl
    have hFc := va_free (wc := [(h0, .inr (0, [.ref h1, .ref h2, .ref h3, .ref h4, .ref h5, .ref h6, .int a0, .int a1, .int a2, .int a3])), (h1, .inl (cI, 2520, .inl g0)), (h2, .inl (cI, 2520, .inl g1)), (h4, .inl (cI, 4096, .inl g3)), (h5, .inl (cI, 81, .inl g4)), (h7, .inr (7, [.ref h8, .ref h9, .ref h10, .ref h11, .ref h12, .ref h13, .int a4, .int a5, .int a6, .int a7, .int a8, .int a9, .int a10, .int a11])), (h9, .inl (cI, 9, .inl g7))]) hD hS hA [0, 1, 2, 3, 4, 5, 7] rfl
    refine va_callv (va_runV (As := [.ref h7, .int p2, .int p3, .int p4]) (rest := []) ⟨hx, hb, hml, hown, hts⟩ (c_s_X0_close l dC dI cB cI cJ cZ cP h0 h1 g0 h2 g1 h3 h4 g3 h5 g4 h6 a0 (rg_mono ha0 (by decide) (by decide)) a1 a2 a3 h7 h8 h9 g7 hg7 h10 h11 h12 h13 a4 a5 a6 (rg_mono ha6 (by decide) (by decide)) a7 a8 a9 a10 a11 p2 (rg_mono hp2 (by decide) (by decide)) p3 p4 kr0 (show nb p4 from nb_of kr2) H.size) (cwV 4 hts (gd_V (List.mem_of_getElem? (i := 12) rfl) (List.mem_of_getElem? (i := 13) rfl) (List.mem_of_getElem? (i := 14) rfl) (List.mem_of_getElem? (i := 11) rfl) (gd_mono k_s_X0_close (fun _ h => List.mem_cons_of_mem _ (List.mem_append_right _ (List.mem_append_right _ (List.mem_append_right _ (List.mem_append_right _ (List.mem_append_right _ (List.mem_append_left _ h))))))))) rfl rfl rfl (by decide +kernel) ⟨Nat.le_of_ble_eq_true rfl, Nat.le_of_ble_eq_true rfl⟩) ⟨fun a U g mk q => by obtain ⟨q0, q1, qP, qK, qD⟩ := q; exact ⟨q0, q1, qP, va_K.moved (u := U) (U := U.calling g mk a) (Vm.Alike.refl U.vm) qK, qD⟩, va_recv hK hPc (ci := 0) (q0 := 0) rfl rfl, fun U hU hW => ⟨rfl, by rw [hU], by rw [hU]; exact hPc, va_K.moved hW.alike hK, hDc.weaken (fun _ _ _ _ => trivial)⟩⟩ rfl rfl hl.1 rfl (lv_room (Nat.le_of_ble_eq_true rfl)) dX0_walk_22 ⟨Nat.le_of_ble_eq_true rfl, Nat.le_of_ble_eq_true rfl⟩) hS (fun q _ h => hFc q h) hFc (fun u t H1 locs ht hvm hw hB hz1 hk1 hS => ?_)
    obtain ⟨x_374, x_375, f_376, f_377, f_378, hx_374, k_379, hP1, hD1⟩ := hB
    rw [ht] at hP1
    obtain ⟨hP, hD⟩ := va_join (wr := [(h8, .inl (cI, 9, .inl g6))]) (w1 := [(h0, .inr (0, [.ref h1, .ref h2, .ref h3, .ref h4, .ref h5, .ref h6, .int x_374, .int a1, .int a2, .int x_375])), (h1, .inl (cI, 2520, .inl f_376)), (h2, .inl (cI, 2520, .inl f_377)), (h4, .inl (cI, 4096, .inl f_378)), (h5, .inl (cI, 81, .inl g4)), (h7, .inr (7, [.ref h8, .ref h9, .ref h10, .ref h11, .ref h12, .ref h13, .int a4, .int a5, .int a6, .int a7, .int a8, .int a9, .int a10, .int a11])), (h9, .inl (cI, 9, .inl g7))]) hP hD [0, 1, 2, 3, 4, 5, 7] [6] rfl rfl (by decide) (by decide) hk1 hFc hP1 hD1
    generalize H1 = H at hP hS ⊢
    replace hP : va_P (dC, dI) vwCl [(h8, .inl (cI, 9, .inl g6)), (h0, .inr (0, [.ref h1, .ref h2, .ref h3, .ref h4, .ref h5, .ref h6, .int x_374, .int a1, .int a2, .int x_375])), (h1, .inl (cI, 2520, .inl f_376)), (h2, .inl (cI, 2520, .inl f_377)), (h4, .inl (cI, 4096, .inl f_378)), (h5, .inl (cI, 81, .inl g4)), (h7, .inr (7, [.ref h8, .ref h9, .ref h10, .ref h11, .ref h12, .ref h13, .int a4, .int a5, .int a6, .int a7, .int a8, .int a9, .int a10, .int a11])), (h9, .inl (cI, 9, .inl g7))] H := hP
    replace hD : va_D A [(h8, .inl (cI, 9, .inl g6)), (h0, .inr (0, [.ref h1, .ref h2, .ref h3, .ref h4, .ref h5, .ref h6, .int x_374, .int a1, .int a2, .int x_375])), (h1, .inl (cI, 2520, .inl f_376)), (h2, .inl (cI, 2520, .inl f_377)), (h4, .inl (cI, 4096, .inl f_378)), (h5, .inl (cI, 81, .inl g4)), (h7, .inr (7, [.ref h8, .ref h9, .ref h10, .ref h11, .ref h12, .ref h13, .int a4, .int a5, .int a6, .int a7, .int a8, .int a9, .int a10, .int a11])), (h9, .inl (cI, 9, .inl g7))] := hD
    have hP9 := hP.sub (ws' := [(h0, .inr (0, [.ref h1, .ref h2, .ref h3, .ref h4, .ref h5, .ref h6, .int x_374, .int a1, .int a2, .int x_375])), (h1, .inl (cI, 2520, .inl f_376)), (h2, .inl (cI, 2520, .inl f_377)), (h4, .inl (cI, 4096, .inl f_378)), (h5, .inl (cI, 81, .inl g4)), (h7, .inr (7, [.ref h8, .ref h9, .ref h10, .ref h11, .ref h12, .ref h13, .int a4, .int a5, .int a6, .int a7, .int a8, .int a9, .int a10, .int a11])), (h8, .inl (cI, 9, .inl g6)), (h9, .inl (cI, 9, .inl g7))]) [1, 2, 3, 4, 5, 6, 0, 7] rfl
    have hD9 := hD.sub (ws' := [(h0, .inr (0, [.ref h1, .ref h2, .ref h3, .ref h4, .ref h5, .ref h6, .int x_374, .int a1, .int a2, .int x_375])), (h1, .inl (cI, 2520, .inl f_376)), (h2, .inl (cI, 2520, .inl f_377)), (h4, .inl (cI, 4096, .inl f_378)), (h5, .inl (cI, 81, .inl g4)), (h7, .inr (7, [.ref h8, .ref h9, .ref h10, .ref h11, .ref h12, .ref h13, .int a4, .int a5, .int a6, .int a7, .int a8, .int a9, .int a10, .int a11])), (h8, .inl (cI, 9, .inl g6)), (h9, .inl (cI, 9, .inl g7))]) [1, 2, 3, 4, 5, 6, 0, 7] (by decide) rfl
    exact W.vret hx hb hr (fun t ht hW => ⟨⟨(), rfl, trivial, ⟨x_374, x_375, f_376, f_377, f_378, (rg_mono hx_374 (by decide) (by decide)), k_379, by rw [ht]; exact hP9, hD9⟩⟩, hS.F ht⟩) hS.2.2 dX0_walk_25
