def v_s_X7_heedPlace : List Cond := Cond.code yX7_heedPlace cX7_heedPlace 5 none :: ([Cond.fieldLink RX7 34 "MayRings$Ways" "size" "I", Cond.fieldLink RX7 9 "MayRings$Ways" "ground" "[I", Cond.fieldLink RX7 30 "MayRings$Ways" "houses" "I", Cond.fieldLink RX7 44 "MayRings$Ways" "never" "Z"] ++ (wsX70 ++ ([])))
theorem k_s_X7_heedPlace : GoodIn lw_tbl v_s_X7_heedPlace := gd_c (List.mem_of_getElem? (i := 1182) (by decide +kernel)) rfl (goodIn_app (gd_c (List.mem_of_getElem? (i := 454) (by decide +kernel)) rfl (gd_c (List.mem_of_getElem? (i := 440) (by decide +kernel)) rfl (gd_c (List.mem_of_getElem? (i := 452) (by decide +kernel)) rfl (gd_c (List.mem_of_getElem? (i := 461) (by decide +kernel)) rfl (gd_nil))))) (goodIn_app kfX7 (gd_nil)))
set_option maxHeartbeats 2000000 in
set_option maxRecDepth 100000 in
theorem c_s_X7_heedPlace (l : Launch) (dC : Nat → ClassId) (dI : Nat → Nat → Nat) (cB cI cJ cZ cP : ClassId) (h0 : Nat) (h1 : Nat) (g0 : Nat → Int32) (hg0 : rgA (0) (511) g0) (h2 : Nat) (h3 : Nat) (h4 : Nat) (h5 : Nat) (h6 : Nat) (a0 : Int32) (ha0 : rg (0) (511) a0) (a1 : Int32) (ha1 : rg (0) (9) a1) (a2 : Int32) (a3 : Int32) (a4 : Int32) (ha4 : rg (0) (1) a4) (a5 : Int32) (a6 : Int32) (a7 : Int32) (p0 : Int32) (hp0 : rg (0) (8) p0) (p1 : Int32) (hp1 : rg (0) (8) p1) (p2 : Int32) (hp2 : rg (0) (1) p2) (sz : Nat) : Met l yX7_heedPlace v_s_X7_heedPlace ({ frames := 0, cells := 0, slots := 0, locals := 0 }) (va_Pc [.ref h0, .int p0, .int p1, .int p2] (fun U => U.heap.size = sz ∧ va_P (dC, dI) vwCl [(h0, .inr (7, [.ref h1, .ref h2, .ref h3, .ref h4, .ref h5, .ref h6, .int a0, .int a1, .int a2, .int a3, .int a4, .int a5, .int a6, .int a7])), (h1, .inl (cI, 9, .inl g0))] U.heap ∧ va_K (dC, dI) vwCl (ty5 cB cI cJ cZ cP) U ∧ va_D (fun _ => True) [(h0, .inr (7, [.ref h1, .ref h2, .ref h3, .ref h4, .ref h5, .ref h6, .int a0, .int a1, .int a2, .int a3, .int a4, .int a5, .int a6, .int a7])), (h1, .inl (cI, 9, .inl g0))])) (va_Qv (fun _ : Unit => True) (fun _ t => ∃ (z0 : Int32) (z1 : Nat → Int32), rg (0) (1) z0 ∧ rgA (0) (511) z1 ∧ va_P (dC, dI) vwCl [(h0, .inr (7, [.ref h1, .ref h2, .ref h3, .ref h4, .ref h5, .ref h6, .int a0, .int a1, .int a2, .int a3, .int z0, .int a5, .int a6, .int a7])), (h1, .inl (cI, 9, .inl z1))] t.heap ∧ va_D (va_A [(h0, .inr (7, [.ref h1, .ref h2, .ref h3, .ref h4, .ref h5, .ref h6, .int a0, .int a1, .int a2, .int a3, .int a4, .int a5, .int a6, .int a7])), (h1, .inl (cI, 9, .inl g0))] sz) [(h0, .inr (7, [.ref h1, .ref h2, .ref h3, .ref h4, .ref h5, .ref h6, .int a0, .int a1, .int a2, .int a3, .int z0, .int a5, .int a6, .int a7])), (h1, .inl (cI, 9, .inl z1))]) (va_A [(h0, .inr (7, [.ref h1, .ref h2, .ref h3, .ref h4, .ref h5, .ref h6, .int a0, .int a1, .int a2, .int a3, .int a4, .int a5, .int a6, .int a7])), (h1, .inl (cI, 9, .inl g0))] sz)) 0 0 (va_A [(h0, .inr (7, [.ref h1, .ref h2, .ref h3, .ref h4, .ref h5, .ref h6, .int a0, .int a1, .int a2, .int a3, .int a4, .int a5, .int a6, .int a7])), (h1, .inl (cI, 9, .inl g0))] sz) := by
  refine Met.ofW (cc := cX7_heedPlace) (maxL := 5) (ret := none) (by decide) rfl ?_
  intro p e s m args below meth c s₁ B hml hv
  obtain ⟨rfl, hsz, hP, hK, hD0⟩ := hv
  have hx := B.exec
  have hb := B.bytes
  have hr := B.returns
  have hts := atoms_spec (ws := v_s_X7_heedPlace) B.pre
  have hown : s.vm.findClass RX7 = some m.cls := findClass_of_methodNamed B.named
  have hlocks := B.notSynchronized
  have hinX7 : ∀ w ∈ wsX70, w ∈ v_s_X7_heedPlace := fun _ h => List.mem_cons_of_mem _ (List.mem_append_right _ (List.mem_append_left _ h))
  subst hsz
  have hD := hD0.self (sz := s.heap.size)
  generalize hAe : va_A [(h0, .inr (7, [.ref h1, .ref h2, .ref h3, .ref h4, .ref h5, .ref h6, .int a0, .int a1, .int a2, .int a3, .int a4, .int a5, .int a6, .int a7])), (h1, .inl (cI, 9, .inl g0))] s.heap.size = A at hD ⊢
  have hA : ∀ q : Nat, s.heap.size ≤ q → A q := fun q h => by rw [← hAe]; exact Or.inr h
  have hP : va_P (dC, dI) vwCl [(h0, .inr (7, [.ref h1, .ref h2, .ref h3, .ref h4, .ref h5, .ref h6, .int a0, .int a1, .int a2, .int a3, .int a4, .int a5, .int a6, .int a7])), (h1, .inl (cI, 9, .inl g0))] s.heap := hP
  have hl := lv_entry ([.ref h0, .int p0, .int p1, .int p2]) (n := 5) (Nat.le_of_ble_eq_true rfl)
  rw [lg_entry_eq]
  generalize (lg_sl ([.ref h0, .int p0, .int p1, .int p2]) ++ List.replicate (5 - (lg_sl ([.ref h0, .int p0, .int p1, .int p2])).length) Slot.unset).toArray = ls at hl ⊢
  have hl : lv_has ls 5 [(0, .ref h0), (1, .int p0), (2, .int p1), (3, .int p2)] := hl
  refine W_gen (A := A) hP (fun H locs hP hS => ?_)
  refine lv_iload_n hx hb dX7_heedPlace_0 rfl (lv_at hl 3 rfl) ?_
  refine lv_if_eq (tgt := 28) hx hb dX7_heedPlace_1 (by decide) (fun c_1 => ?_) (fun c_1 => ?_)
  · skip
    have h_2 : rg (0) (0) p2 := by have ha := hp2; have hb_ := (rg_k (x := 0) (c := 0) (by decide)); simp only [rg, fa_lt, fa_le, fa_eq, (by decide : (0 : Int32).toInt = 0)] at ha hb_ c_1; simp only [rg]; omega
    refine lv_iconst (v := 0) hx hb dX7_heedPlace_28 (by decide) ?_
    refine lv_istore (lv' := [(4, .int 0), (0, .ref h0), (1, .int p0), (2, .int p1), (3, .int p2)]) hx hb dX7_heedPlace_29 hl (by decide) rfl (fun ls hl => ?_)
    refine W_loopM (σ := Int32 × (Nat → Int32)) (fun u H locs ls => va_P (dC, dI) vwCl [(h0, .inr (7, [.ref h1, .ref h2, .ref h3, .ref h4, .ref h5, .ref h6, .int a0, .int a1, .int a2, .int a3, .int a4, .int a5, .int a6, .int a7])), (h1, .inl (cI, 9, .inl u.2))] H ∧ va_D A [(h0, .inr (7, [.ref h1, .ref h2, .ref h3, .ref h4, .ref h5, .ref h6, .int a0, .int a1, .int a2, .int a3, .int a4, .int a5, .int a6, .int a7])), (h1, .inl (cI, 9, .inl u.2))] ∧ va_S A s.heap H locs ∧ lv_has ls 5 [(4, .int u.1), (0, .ref h0), (1, .int p0), (2, .int p1), (3, .int p2)] ∧ rg (0) (9) u.1 ∧ rgA (0) (511) u.2) (fun u => ((9) - u.1.toInt).toNat) 31 [] ?_ (0, g0) H locs ls ⟨hP, hD, hS, hl, (rg_mono (rg_k (x := 0) (c := 0) (by decide)) (by decide) (by decide)), hg0⟩
    rintro ⟨x_143, f_144⟩ H locs ls ⟨hP, hD, hS, hl, hx_143, hf_144⟩ ih_158
    have hP : va_P (dC, dI) vwCl [(h0, .inr (7, [.ref h1, .ref h2, .ref h3, .ref h4, .ref h5, .ref h6, .int a0, .int a1, .int a2, .int a3, .int a4, .int a5, .int a6, .int a7])), (h1, .inl (cI, 9, .inl f_144))] H := hP
    have hD : va_D A [(h0, .inr (7, [.ref h1, .ref h2, .ref h3, .ref h4, .ref h5, .ref h6, .int a0, .int a1, .int a2, .int a3, .int a4, .int a5, .int a6, .int a7])), (h1, .inl (cI, 9, .inl f_144))] := hD
    have hl : lv_has ls 5 [(4, .int x_143), (0, .ref h0), (1, .int p0), (2, .int p1), (3, .int p2)] := hl
    have hx_143 : rg (0) (9) x_143 := hx_143
    have hf_144 : rgA (0) (511) f_144 := hf_144
    refine lv_iload hx hb dX7_heedPlace_31 (lv_at hl 0 rfl) ?_
    refine lv_aload_n hx hb dX7_heedPlace_33 rfl (lv_at hl 1 rfl) ?_
    refine va_get (D := (dC, dI)) (ci := 7) (v := .int a1) (C := RX7) (T := TX7) (N := 14) hx hb hts hinX7 hown hK hP 0 rfl rfl 7 (by decide) (hts (.fieldLink RX7 34 "MayRings$Ways" "size" "I") (List.mem_of_getElem? (i := 1) rfl)) (fun _ h9 => h9) rfl dX7_heedPlace_34 ?_
    refine lv_icmp_ge (tgt := 76) hx hb dX7_heedPlace_37 (by decide) (fun c_159 => ?_) (fun c_159 => ?_)
    · skip
      have hP9 := hP.sub (ws' := [(h0, .inr (7, [.ref h1, .ref h2, .ref h3, .ref h4, .ref h5, .ref h6, .int a0, .int a1, .int a2, .int a3, .int a4, .int a5, .int a6, .int a7])), (h1, .inl (cI, 9, .inl f_144))]) [0, 1] rfl
      have hD9 := hD.sub (ws' := [(h0, .inr (7, [.ref h1, .ref h2, .ref h3, .ref h4, .ref h5, .ref h6, .int a0, .int a1, .int a2, .int a3, .int a4, .int a5, .int a6, .int a7])), (h1, .inl (cI, 9, .inl f_144))]) [0, 1] (by decide) rfl
      exact W.vret hx hb hr (fun t ht hW => ⟨⟨(), rfl, trivial, ⟨a4, f_144, (rg_mono ha4 (by decide) (by decide)), hf_144, by rw [ht]; exact hP9, hD9⟩⟩, hS.F ht⟩) hS.2.2 dX7_heedPlace_76
    · skip
      have h_160 : rg (0) (8) x_143 := by have ha := hx_143; have hb_ := ha1; simp only [rg, fa_lt, fa_le, fa_eq] at ha hb_ c_159; simp only [rg]; omega
      have h_161 : rg (1) (9) a1 := by have ha := hx_143; have hb_ := ha1; simp only [rg, fa_lt, fa_le, fa_eq] at ha hb_ c_159; simp only [rg]; omega
      refine lv_iload hx hb dX7_heedPlace_40 (lv_at hl 0 rfl) ?_
      refine lv_iload_n hx hb dX7_heedPlace_42 rfl (lv_at hl 3 rfl) ?_
      refine lv_icmp_ne (tgt := 50) hx hb dX7_heedPlace_43 (by decide) (fun c_162 => ?_) (fun c_162 => ?_)
      · skip
        refine lv_iconst (v := 0) hx hb dX7_heedPlace_50 (by decide) ?_
        refine lv_iload_n hx hb dX7_heedPlace_51 rfl (lv_at hl 4 rfl) ?_
        refine lv_icmp_eq (tgt := 70) hx hb dX7_heedPlace_52 (by decide) (fun c_163 => ?_) (fun c_163 => ?_)
        · skip
          obtain ⟨x_164, ex_164⟩ : ∃ y : Int32, y = x_143 + Int32.ofInt (1) := ⟨_, rfl⟩
          have hx_164 : rg (1) (9) x_164 := by rw [ex_164]; exact rg_mono (rg_add h_160 (rg_k (x := Int32.ofInt (1)) (c := 1) (by decide)) (by decide) (by decide)) (by decide) (by decide)
          have qx_164 : x_164.toInt = x_143.toInt + (1) := by rw [ex_164]; exact rg_addE h_160 (rg_k (x := Int32.ofInt (1)) (c := 1) (by decide)) (by decide) (by decide) (by decide)
          refine lv_iinc (v := x_164) (lv' := [(4, .int x_164), (0, .ref h0), (1, .int p0), (2, .int p1), (3, .int p2)]) hx hb dX7_heedPlace_70 hl (k := 0) rfl (ex_164.symm) (by decide) rfl (fun ls hl => ?_)
          clear ex_164
          refine lv_goto (tgt := 31) hx hb dX7_heedPlace_73 (by decide) ?_
          exact ih_158 (x_164, f_144) H locs ls ⟨hP.sub (ws' := [(h0, .inr (7, [.ref h1, .ref h2, .ref h3, .ref h4, .ref h5, .ref h6, .int a0, .int a1, .int a2, .int a3, .int a4, .int a5, .int a6, .int a7])), (h1, .inl (cI, 9, .inl f_144))]) [0, 1] rfl, hD.sub (ws' := [(h0, .inr (7, [.ref h1, .ref h2, .ref h3, .ref h4, .ref h5, .ref h6, .int a0, .int a1, .int a2, .int a3, .int a4, .int a5, .int a6, .int a7])), (h1, .inl (cI, 9, .inl f_144))]) [0, 1] (by decide) rfl, hS, lv_sub hl [0, 1, 2, 3, 4] rfl, (rg_mono hx_164 (by decide) (by decide)), hf_144⟩ (by show ((9) - x_164.toInt).toNat < ((9) - x_143.toInt).toNat; have ha := h_160; simp only [rg] at ha; omega)
        · skip
          exfalso; have ha := (rg_k (x := 0) (c := 0) (by decide)); have hb_ := h_2; simp only [rg, fa_lt, fa_le, fa_eq, (by decide : (0 : Int32).toInt = 0)] at ha hb_ c_163; omega
      · skip
        refine lv_iconst (v := 1) hx hb dX7_heedPlace_46 (by decide) ?_
        refine lv_goto (tgt := 51) hx hb dX7_heedPlace_47 (by decide) ?_
        refine lv_iload_n hx hb dX7_heedPlace_51 rfl (lv_at hl 4 rfl) ?_
        refine lv_icmp_eq (tgt := 70) hx hb dX7_heedPlace_52 (by decide) (fun c_165 => ?_) (fun c_165 => ?_)
        · skip
          exfalso; have ha := (rg_k (x := 1) (c := 1) (by decide)); have hb_ := h_2; simp only [rg, fa_lt, fa_le, fa_eq, (by decide : (1 : Int32).toInt = 1)] at ha hb_ c_165; omega
        · skip
          refine lv_aload_n hx hb dX7_heedPlace_55 rfl (lv_at hl 1 rfl) ?_
          refine va_get (D := (dC, dI)) (ci := 7) (v := .ref h1) (C := RX7) (T := TX7) (N := 14) hx hb hts hinX7 hown hK hP 0 rfl rfl 0 (by decide) (hts (.fieldLink RX7 9 "MayRings$Ways" "ground" "[I") (List.mem_of_getElem? (i := 2) rfl)) (fun _ h9 => h9) rfl dX7_heedPlace_56 ?_
          refine lv_iload hx hb dX7_heedPlace_59 (lv_at hl 0 rfl) ?_
          refine lv_dup2_11 hx hb dX7_heedPlace_61 rfl rfl ?_
          refine va_iald hx hb hK hP 1 1 rfl rfl (rg_in (n := 9) (rg_mono h_160 (by decide) (by decide))) dX7_heedPlace_62 ?_
          refine lv_topi (fun x_166 ex_166 => ?_)
          have hx_166 : rg (0) (511) x_166 := by rw [ex_166]; exact rg_mono (hf_144 _) (by decide) (by decide)
          refine lv_iconst (v := 1) hx hb dX7_heedPlace_63 (by decide) ?_
          refine lv_iload_n hx hb dX7_heedPlace_64 rfl (lv_at hl 2 rfl) ?_
          refine lv_ishl hx hb dX7_heedPlace_65 ?_
          refine lv_topi (fun x_167 ex_167 => ?_)
          have hx_167 : rg (1) (256) x_167 := by rw [ex_167]; exact rg_mono (rg_shl1 8 (rg_mono hp0 (by decide) (by decide)) (by decide)) (by decide) (by decide)
          refine lv_iconst (v := (-1)) hx hb dX7_heedPlace_66 (by decide) ?_
          refine lv_ixor hx hb dX7_heedPlace_67 ?_
          refine lv_topi (fun x_168 ex_168 => ?_)
          refine lv_iand hx hb dX7_heedPlace_68 ?_
          refine lv_topi (fun x_169 ex_169 => ?_)
          have hx_169 : rg (0) (511) x_169 := by rw [ex_169]; exact rg_mono (rg_andl (b := 511) (rg_mono hx_166 (by decide) (by decide))) (by decide) (by decide)
          have kx_169_0 : rg 1 2147483647 x_169 → rg 1 (511) x_166 := fun hq => rg_andP hx_166 (ex_169 ▸ hq)
          refine va_iast hx hb hK hP hD hS 1 1 rfl rfl (rg_in (n := 9) (rg_mono h_160 (by decide) (by decide))) dX7_heedPlace_69 (fun H locs hP hD hS => ?_)
          obtain ⟨f_170, ef_170⟩ : ∃ f : Nat → Int32, f = upd f_144 (x_143 : Int32).toNatClampNeg x_169 := ⟨_, rfl⟩
          rw [← ef_170] at hP hD
          have hf_170 : rgA (0) (511) f_170 := by rw [ef_170]; exact rgA_upd hf_144 (rg_mono hx_169 (by decide) (by decide))
          clear ef_170
          have hP : va_P (dC, dI) vwCl [(h0, .inr (7, [.ref h1, .ref h2, .ref h3, .ref h4, .ref h5, .ref h6, .int a0, .int a1, .int a2, .int a3, .int a4, .int a5, .int a6, .int a7])), (h1, .inl (cI, 9, .inl f_170))] H := hP
          have hD : va_D A [(h0, .inr (7, [.ref h1, .ref h2, .ref h3, .ref h4, .ref h5, .ref h6, .int a0, .int a1, .int a2, .int a3, .int a4, .int a5, .int a6, .int a7])), (h1, .inl (cI, 9, .inl f_170))] := hD
          obtain ⟨x_171, ex_171⟩ : ∃ y : Int32, y = x_143 + Int32.ofInt (1) := ⟨_, rfl⟩
          have hx_171 : rg (1) (9) x_171 := by rw [ex_171]; exact rg_mono (rg_add h_160 (rg_k (x := Int32.ofInt (1)) (c := 1) (by decide)) (by decide) (by decide)) (by decide) (by decide)
          have qx_171 : x_171.toInt = x_143.toInt + (1) := by rw [ex_171]; exact rg_addE h_160 (rg_k (x := Int32.ofInt (1)) (c := 1) (by decide)) (by decide) (by decide) (by decide)
          refine lv_iinc (v := x_171) (lv' := [(4, .int x_171), (0, .ref h0), (1, .int p0), (2, .int p1), (3, .int p2)]) hx hb dX7_heedPlace_70 hl (k := 0) rfl (ex_171.symm) (by decide) rfl (fun ls hl => ?_)
          clear ex_171
          refine lv_goto (tgt := 31) hx hb dX7_heedPlace_73 (by decide) ?_
          exact ih_158 (x_171, f_170) H locs ls ⟨hP.sub (ws' := [(h0, .inr (7, [.ref h1, .ref h2, .ref h3, .ref h4, .ref h5, .ref h6, .int a0, .int a1, .int a2, .int a3, .int a4, .int a5, .int a6, .int a7])), (h1, .inl (cI, 9, .inl f_170))]) [0, 1] rfl, hD.sub (ws' := [(h0, .inr (7, [.ref h1, .ref h2, .ref h3, .ref h4, .ref h5, .ref h6, .int a0, .int a1, .int a2, .int a3, .int a4, .int a5, .int a6, .int a7])), (h1, .inl (cI, 9, .inl f_170))]) [0, 1] (by decide) rfl, hS, lv_sub hl [0, 1, 2, 3, 4] rfl, (rg_mono hx_171 (by decide) (by decide)), hf_170⟩ (by show ((9) - x_171.toInt).toNat < ((9) - x_143.toInt).toNat; have ha := h_160; simp only [rg] at ha; omega)
  · skip
    have h_172 : rg (1) (1) p2 := by have ha := hp2; have hb_ := (rg_k (x := 0) (c := 0) (by decide)); simp only [rg, fa_lt, fa_le, fa_eq, (by decide : (0 : Int32).toInt = 0)] at ha hb_ c_1; simp only [rg]; omega
    refine lv_aload_n hx hb dX7_heedPlace_4 rfl (lv_at hl 0 rfl) ?_
    refine va_get (D := (dC, dI)) (ci := 7) (v := .int a0) (C := RX7) (T := TX7) (N := 14) hx hb hts hinX7 hown hK hP 0 rfl rfl 6 (by decide) (hts (.fieldLink RX7 30 "MayRings$Ways" "houses" "I") (List.mem_of_getElem? (i := 3) rfl)) (fun _ h9 => h9) rfl dX7_heedPlace_5 ?_
    refine lv_iload_n hx hb dX7_heedPlace_8 rfl (lv_at hl 1 rfl) ?_
    refine lv_ishr hx hb dX7_heedPlace_9 ?_
    refine lv_topi (fun x_173 ex_173 => ?_)
    have hx_173 : rg (0) (511) x_173 := by rw [ex_173]; exact rg_mono (rg_shr (b := 511) (rg_mono ha0 (by decide) (by decide))) (by decide) (by decide)
    have kx_173_0 : rg 1 2147483647 x_173 → rg 1 (511) a0 := fun hq => rg_shrP ha0 (ex_173 ▸ hq)
    refine lv_iconst (v := 1) hx hb dX7_heedPlace_10 (by decide) ?_
    refine lv_iand hx hb dX7_heedPlace_11 ?_
    refine lv_topi (fun x_174 ex_174 => ?_)
    have hx_174 : rg (0) (1) x_174 := by rw [ex_174]; exact rg_mono (rg_andr (b := 1) (rg_mono (rg_k (x := 1) (c := 1) (by decide)) (by decide) (by decide))) (by decide) (by decide)
    have kx_174_0 : rg 1 2147483647 x_174 → rg 1 (511) x_173 := fun hq => rg_andP hx_173 (ex_174 ▸ hq)
    refine lv_if_eq (tgt := 23) hx hb dX7_heedPlace_12 (by decide) (fun c_175 => ?_) (fun c_175 => ?_)
    · skip
      have h_176 : rg (0) (0) x_174 := by have ha := hx_174; have hb_ := (rg_k (x := 0) (c := 0) (by decide)); simp only [rg, fa_lt, fa_le, fa_eq, (by decide : (0 : Int32).toInt = 0)] at ha hb_ c_175; simp only [rg]; omega
      refine lv_aload_n hx hb dX7_heedPlace_23 rfl (lv_at hl 0 rfl) ?_
      refine lv_iconst (v := 1) hx hb dX7_heedPlace_24 (by decide) ?_
      refine va_put (D := (dC, dI)) (ci := 7) (v := .int 1) (ty := .boolean) (C := RX7) (T := TX7) (N := 14) hx hb hts hinX7 tyX7 tyX7_ok nmX7 hown hK hP hD hS 0 rfl rfl 10 (by decide) (hts (.fieldLink RX7 44 "MayRings$Ways" "never" "Z") (List.mem_of_getElem? (i := 4) rfl)) (fun _ h9 => h9) rfl (by decide +kernel) (rfl) (rfl) (Nat.le_of_ble_eq_true rfl) dX7_heedPlace_25 (fun H locs hP hD hS => ?_)
      have hP : va_P (dC, dI) vwCl [(h0, .inr (7, [.ref h1, .ref h2, .ref h3, .ref h4, .ref h5, .ref h6, .int a0, .int a1, .int a2, .int a3, .int 1, .int a5, .int a6, .int a7])), (h1, .inl (cI, 9, .inl g0))] H := hP
      have hD : va_D A [(h0, .inr (7, [.ref h1, .ref h2, .ref h3, .ref h4, .ref h5, .ref h6, .int a0, .int a1, .int a2, .int a3, .int 1, .int a5, .int a6, .int a7])), (h1, .inl (cI, 9, .inl g0))] := hD
      refine lv_iconst (v := 0) hx hb dX7_heedPlace_28 (by decide) ?_
      refine lv_istore (lv' := [(4, .int 0), (0, .ref h0), (1, .int p0), (2, .int p1), (3, .int p2)]) hx hb dX7_heedPlace_29 hl (by decide) rfl (fun ls hl => ?_)
      refine W_loopM (σ := (Nat → Int32) × Int32) (fun u H locs ls => va_P (dC, dI) vwCl [(h0, .inr (7, [.ref h1, .ref h2, .ref h3, .ref h4, .ref h5, .ref h6, .int a0, .int a1, .int a2, .int a3, .int 1, .int a5, .int a6, .int a7])), (h1, .inl (cI, 9, .inl u.1))] H ∧ va_D A [(h0, .inr (7, [.ref h1, .ref h2, .ref h3, .ref h4, .ref h5, .ref h6, .int a0, .int a1, .int a2, .int a3, .int 1, .int a5, .int a6, .int a7])), (h1, .inl (cI, 9, .inl u.1))] ∧ va_S A s.heap H locs ∧ lv_has ls 5 [(4, .int u.2), (0, .ref h0), (1, .int p0), (2, .int p1), (3, .int p2)] ∧ rgA (0) (511) u.1 ∧ rg (0) (9) u.2) (fun u => ((9) - u.2.toInt).toNat) 31 [] ?_ (g0, 0) H locs ls ⟨hP, hD, hS, hl, hg0, (rg_mono (rg_k (x := 0) (c := 0) (by decide)) (by decide) (by decide))⟩
      rintro ⟨f_317, x_318⟩ H locs ls ⟨hP, hD, hS, hl, hf_317, hx_318⟩ ih_332
      have hP : va_P (dC, dI) vwCl [(h0, .inr (7, [.ref h1, .ref h2, .ref h3, .ref h4, .ref h5, .ref h6, .int a0, .int a1, .int a2, .int a3, .int 1, .int a5, .int a6, .int a7])), (h1, .inl (cI, 9, .inl f_317))] H := hP
      have hD : va_D A [(h0, .inr (7, [.ref h1, .ref h2, .ref h3, .ref h4, .ref h5, .ref h6, .int a0, .int a1, .int a2, .int a3, .int 1, .int a5, .int a6, .int a7])), (h1, .inl (cI, 9, .inl f_317))] := hD
      have hl : lv_has ls 5 [(4, .int x_318), (0, .ref h0), (1, .int p0), (2, .int p1), (3, .int p2)] := hl
      have hf_317 : rgA (0) (511) f_317 := hf_317
      have hx_318 : rg (0) (9) x_318 := hx_318
      refine lv_iload hx hb dX7_heedPlace_31 (lv_at hl 0 rfl) ?_
      refine lv_aload_n hx hb dX7_heedPlace_33 rfl (lv_at hl 1 rfl) ?_
      refine va_get (D := (dC, dI)) (ci := 7) (v := .int a1) (C := RX7) (T := TX7) (N := 14) hx hb hts hinX7 hown hK hP 0 rfl rfl 7 (by decide) (hts (.fieldLink RX7 34 "MayRings$Ways" "size" "I") (List.mem_of_getElem? (i := 1) rfl)) (fun _ h9 => h9) rfl dX7_heedPlace_34 ?_
      refine lv_icmp_ge (tgt := 76) hx hb dX7_heedPlace_37 (by decide) (fun c_333 => ?_) (fun c_333 => ?_)
      · skip
        have hP9 := hP.sub (ws' := [(h0, .inr (7, [.ref h1, .ref h2, .ref h3, .ref h4, .ref h5, .ref h6, .int a0, .int a1, .int a2, .int a3, .int 1, .int a5, .int a6, .int a7])), (h1, .inl (cI, 9, .inl f_317))]) [0, 1] rfl
        have hD9 := hD.sub (ws' := [(h0, .inr (7, [.ref h1, .ref h2, .ref h3, .ref h4, .ref h5, .ref h6, .int a0, .int a1, .int a2, .int a3, .int 1, .int a5, .int a6, .int a7])), (h1, .inl (cI, 9, .inl f_317))]) [0, 1] (by decide) rfl
        exact W.vret hx hb hr (fun t ht hW => ⟨⟨(), rfl, trivial, ⟨1, f_317, (rg_mono (rg_k (x := 1) (c := 1) (by decide)) (by decide) (by decide)), hf_317, by rw [ht]; exact hP9, hD9⟩⟩, hS.F ht⟩) hS.2.2 dX7_heedPlace_76
      · skip
        have h_334 : rg (0) (8) x_318 := by have ha := hx_318; have hb_ := ha1; simp only [rg, fa_lt, fa_le, fa_eq] at ha hb_ c_333; simp only [rg]; omega
        have h_335 : rg (1) (9) a1 := by have ha := hx_318; have hb_ := ha1; simp only [rg, fa_lt, fa_le, fa_eq] at ha hb_ c_333; simp only [rg]; omega
        refine lv_iload hx hb dX7_heedPlace_40 (lv_at hl 0 rfl) ?_
        refine lv_iload_n hx hb dX7_heedPlace_42 rfl (lv_at hl 3 rfl) ?_
        refine lv_icmp_ne (tgt := 50) hx hb dX7_heedPlace_43 (by decide) (fun c_336 => ?_) (fun c_336 => ?_)
        · skip
          refine lv_iconst (v := 0) hx hb dX7_heedPlace_50 (by decide) ?_
          refine lv_iload_n hx hb dX7_heedPlace_51 rfl (lv_at hl 4 rfl) ?_
          refine lv_icmp_eq (tgt := 70) hx hb dX7_heedPlace_52 (by decide) (fun c_337 => ?_) (fun c_337 => ?_)
          · skip
            exfalso; have ha := (rg_k (x := 0) (c := 0) (by decide)); have hb_ := h_172; simp only [rg, fa_lt, fa_le, fa_eq, (by decide : (0 : Int32).toInt = 0)] at ha hb_ c_337; omega
          · skip
            refine lv_aload_n hx hb dX7_heedPlace_55 rfl (lv_at hl 1 rfl) ?_
            refine va_get (D := (dC, dI)) (ci := 7) (v := .ref h1) (C := RX7) (T := TX7) (N := 14) hx hb hts hinX7 hown hK hP 0 rfl rfl 0 (by decide) (hts (.fieldLink RX7 9 "MayRings$Ways" "ground" "[I") (List.mem_of_getElem? (i := 2) rfl)) (fun _ h9 => h9) rfl dX7_heedPlace_56 ?_
            refine lv_iload hx hb dX7_heedPlace_59 (lv_at hl 0 rfl) ?_
            refine lv_dup2_11 hx hb dX7_heedPlace_61 rfl rfl ?_
            refine va_iald hx hb hK hP 1 1 rfl rfl (rg_in (n := 9) (rg_mono h_334 (by decide) (by decide))) dX7_heedPlace_62 ?_
            refine lv_topi (fun x_338 ex_338 => ?_)
            have hx_338 : rg (0) (511) x_338 := by rw [ex_338]; exact rg_mono (hf_317 _) (by decide) (by decide)
            refine lv_iconst (v := 1) hx hb dX7_heedPlace_63 (by decide) ?_
            refine lv_iload_n hx hb dX7_heedPlace_64 rfl (lv_at hl 2 rfl) ?_
            refine lv_ishl hx hb dX7_heedPlace_65 ?_
            refine lv_topi (fun x_339 ex_339 => ?_)
            have hx_339 : rg (1) (256) x_339 := by rw [ex_339]; exact rg_mono (rg_shl1 8 (rg_mono hp0 (by decide) (by decide)) (by decide)) (by decide) (by decide)
            refine lv_iconst (v := (-1)) hx hb dX7_heedPlace_66 (by decide) ?_
            refine lv_ixor hx hb dX7_heedPlace_67 ?_
            refine lv_topi (fun x_340 ex_340 => ?_)
            refine lv_iand hx hb dX7_heedPlace_68 ?_
            refine lv_topi (fun x_341 ex_341 => ?_)
            have hx_341 : rg (0) (511) x_341 := by rw [ex_341]; exact rg_mono (rg_andl (b := 511) (rg_mono hx_338 (by decide) (by decide))) (by decide) (by decide)
            have kx_341_0 : rg 1 2147483647 x_341 → rg 1 (511) x_338 := fun hq => rg_andP hx_338 (ex_341 ▸ hq)
            refine va_iast hx hb hK hP hD hS 1 1 rfl rfl (rg_in (n := 9) (rg_mono h_334 (by decide) (by decide))) dX7_heedPlace_69 (fun H locs hP hD hS => ?_)
            obtain ⟨f_342, ef_342⟩ : ∃ f : Nat → Int32, f = upd f_317 (x_318 : Int32).toNatClampNeg x_341 := ⟨_, rfl⟩
            rw [← ef_342] at hP hD
            have hf_342 : rgA (0) (511) f_342 := by rw [ef_342]; exact rgA_upd hf_317 (rg_mono hx_341 (by decide) (by decide))
            clear ef_342
            have hP : va_P (dC, dI) vwCl [(h0, .inr (7, [.ref h1, .ref h2, .ref h3, .ref h4, .ref h5, .ref h6, .int a0, .int a1, .int a2, .int a3, .int 1, .int a5, .int a6, .int a7])), (h1, .inl (cI, 9, .inl f_342))] H := hP
            have hD : va_D A [(h0, .inr (7, [.ref h1, .ref h2, .ref h3, .ref h4, .ref h5, .ref h6, .int a0, .int a1, .int a2, .int a3, .int 1, .int a5, .int a6, .int a7])), (h1, .inl (cI, 9, .inl f_342))] := hD
            obtain ⟨x_343, ex_343⟩ : ∃ y : Int32, y = x_318 + Int32.ofInt (1) := ⟨_, rfl⟩
            have hx_343 : rg (1) (9) x_343 := by rw [ex_343]; exact rg_mono (rg_add h_334 (rg_k (x := Int32.ofInt (1)) (c := 1) (by decide)) (by decide) (by decide)) (by decide) (by decide)
            have qx_343 : x_343.toInt = x_318.toInt + (1) := by rw [ex_343]; exact rg_addE h_334 (rg_k (x := Int32.ofInt (1)) (c := 1) (by decide)) (by decide) (by decide) (by decide)
            refine lv_iinc (v := x_343) (lv' := [(4, .int x_343), (0, .ref h0), (1, .int p0), (2, .int p1), (3, .int p2)]) hx hb dX7_heedPlace_70 hl (k := 0) rfl (ex_343.symm) (by decide) rfl (fun ls hl => ?_)
            clear ex_343
            refine lv_goto (tgt := 31) hx hb dX7_heedPlace_73 (by decide) ?_
            exact ih_332 (f_342, x_343) H locs ls ⟨hP.sub (ws' := [(h0, .inr (7, [.ref h1, .ref h2, .ref h3, .ref h4, .ref h5, .ref h6, .int a0, .int a1, .int a2, .int a3, .int 1, .int a5, .int a6, .int a7])), (h1, .inl (cI, 9, .inl f_342))]) [0, 1] rfl, hD.sub (ws' := [(h0, .inr (7, [.ref h1, .ref h2, .ref h3, .ref h4, .ref h5, .ref h6, .int a0, .int a1, .int a2, .int a3, .int 1, .int a5, .int a6, .int a7])), (h1, .inl (cI, 9, .inl f_342))]) [0, 1] (by decide) rfl, hS, lv_sub hl [0, 1, 2, 3, 4] rfl, hf_342, (rg_mono hx_343 (by decide) (by decide))⟩ (by show ((9) - x_343.toInt).toNat < ((9) - x_318.toInt).toNat; have ha := h_334; simp only [rg] at ha; omega)
        · skip
          refine lv_iconst (v := 1) hx hb dX7_heedPlace_46 (by decide) ?_
          refine lv_goto (tgt := 51) hx hb dX7_heedPlace_47 (by decide) ?_
          refine lv_iload_n hx hb dX7_heedPlace_51 rfl (lv_at hl 4 rfl) ?_
          refine lv_icmp_eq (tgt := 70) hx hb dX7_heedPlace_52 (by decide) (fun c_344 => ?_) (fun c_344 => ?_)
          · skip
            obtain ⟨x_345, ex_345⟩ : ∃ y : Int32, y = x_318 + Int32.ofInt (1) := ⟨_, rfl⟩
            have hx_345 : rg (1) (9) x_345 := by rw [ex_345]; exact rg_mono (rg_add h_334 (rg_k (x := Int32.ofInt (1)) (c := 1) (by decide)) (by decide) (by decide)) (by decide) (by decide)
            have qx_345 : x_345.toInt = x_318.toInt + (1) := by rw [ex_345]; exact rg_addE h_334 (rg_k (x := Int32.ofInt (1)) (c := 1) (by decide)) (by decide) (by decide) (by decide)
            refine lv_iinc (v := x_345) (lv' := [(4, .int x_345), (0, .ref h0), (1, .int p0), (2, .int p1), (3, .int p2)]) hx hb dX7_heedPlace_70 hl (k := 0) rfl (ex_345.symm) (by decide) rfl (fun ls hl => ?_)
            clear ex_345
            refine lv_goto (tgt := 31) hx hb dX7_heedPlace_73 (by decide) ?_
            exact ih_332 (f_317, x_345) H locs ls ⟨hP.sub (ws' := [(h0, .inr (7, [.ref h1, .ref h2, .ref h3, .ref h4, .ref h5, .ref h6, .int a0, .int a1, .int a2, .int a3, .int 1, .int a5, .int a6, .int a7])), (h1, .inl (cI, 9, .inl f_317))]) [0, 1] rfl, hD.sub (ws' := [(h0, .inr (7, [.ref h1, .ref h2, .ref h3, .ref h4, .ref h5, .ref h6, .int a0, .int a1, .int a2, .int a3, .int 1, .int a5, .int a6, .int a7])), (h1, .inl (cI, 9, .inl f_317))]) [0, 1] (by decide) rfl, hS, lv_sub hl [0, 1, 2, 3, 4] rfl, hf_317, (rg_mono hx_345 (by decide) (by decide))⟩ (by show ((9) - x_345.toInt).toNat < ((9) - x_318.toInt).toNat; have ha := h_334; simp only [rg] at ha; omega)
          · skip
            exfalso; have ha := (rg_k (x := 1) (c := 1) (by decide)); have hb_ := h_172; simp only [rg, fa_lt, fa_le, fa_eq, (by decide : (1 : Int32).toInt = 1)] at ha hb_ c_344; omega
    · skip
      have h_346 : rg (1) (1) x_174 := by have ha := hx_174; have hb_ := (rg_k (x := 0) (c := 0) (by decide)); simp only [rg, fa_lt, fa_le, fa_eq, (by decide : (0 : Int32).toInt = 0)] at ha hb_ c_175; simp only [rg]; omega
      have h_347 : rg (1) (511) x_173 := rg_meet hx_173 (kx_174_0 (rg_mono h_346 (by decide) (by decide))) (by decide) (by decide)
      have h_348 : rg (1) (511) a0 := rg_meet ha0 (kx_173_0 (rg_mono h_347 (by decide) (by decide))) (by decide) (by decide)
      refine lv_iload_n hx hb dX7_heedPlace_15 rfl (lv_at hl 2 rfl) ?_
      refine lv_aload_n hx hb dX7_heedPlace_16 rfl (lv_at hl 0 rfl) ?_
      refine va_get (D := (dC, dI)) (ci := 7) (v := .int a1) (C := RX7) (T := TX7) (N := 14) hx hb hts hinX7 hown hK hP 0 rfl rfl 7 (by decide) (hts (.fieldLink RX7 34 "MayRings$Ways" "size" "I") (List.mem_of_getElem? (i := 1) rfl)) (fun _ h9 => h9) rfl dX7_heedPlace_17 ?_
      refine lv_icmp_lt (tgt := 28) hx hb dX7_heedPlace_20 (by decide) (fun c_349 => ?_) (fun c_349 => ?_)
      · skip
        have h_350 : rg (1) (9) a1 := by have ha := hp1; have hb_ := ha1; simp only [rg, fa_lt, fa_le, fa_eq] at ha hb_ c_349; simp only [rg]; omega
        refine lv_iconst (v := 0) hx hb dX7_heedPlace_28 (by decide) ?_
        refine lv_istore (lv' := [(4, .int 0), (0, .ref h0), (1, .int p0), (2, .int p1), (3, .int p2)]) hx hb dX7_heedPlace_29 hl (by decide) rfl (fun ls hl => ?_)
        refine W_loopM (σ := (Nat → Int32) × Int32) (fun u H locs ls => va_P (dC, dI) vwCl [(h0, .inr (7, [.ref h1, .ref h2, .ref h3, .ref h4, .ref h5, .ref h6, .int a0, .int a1, .int a2, .int a3, .int a4, .int a5, .int a6, .int a7])), (h1, .inl (cI, 9, .inl u.1))] H ∧ va_D A [(h0, .inr (7, [.ref h1, .ref h2, .ref h3, .ref h4, .ref h5, .ref h6, .int a0, .int a1, .int a2, .int a3, .int a4, .int a5, .int a6, .int a7])), (h1, .inl (cI, 9, .inl u.1))] ∧ va_S A s.heap H locs ∧ lv_has ls 5 [(4, .int u.2), (0, .ref h0), (1, .int p0), (2, .int p1), (3, .int p2)] ∧ rgA (0) (511) u.1 ∧ rg (0) (9) u.2) (fun u => ((9) - u.2.toInt).toNat) 31 [] ?_ (g0, 0) H locs ls ⟨hP, hD, hS, hl, hg0, (rg_mono (rg_k (x := 0) (c := 0) (by decide)) (by decide) (by decide))⟩
        rintro ⟨f_489, x_490⟩ H locs ls ⟨hP, hD, hS, hl, hf_489, hx_490⟩ ih_504
        have hP : va_P (dC, dI) vwCl [(h0, .inr (7, [.ref h1, .ref h2, .ref h3, .ref h4, .ref h5, .ref h6, .int a0, .int a1, .int a2, .int a3, .int a4, .int a5, .int a6, .int a7])), (h1, .inl (cI, 9, .inl f_489))] H := hP
        have hD : va_D A [(h0, .inr (7, [.ref h1, .ref h2, .ref h3, .ref h4, .ref h5, .ref h6, .int a0, .int a1, .int a2, .int a3, .int a4, .int a5, .int a6, .int a7])), (h1, .inl (cI, 9, .inl f_489))] := hD
        have hl : lv_has ls 5 [(4, .int x_490), (0, .ref h0), (1, .int p0), (2, .int p1), (3, .int p2)] := hl
        have hf_489 : rgA (0) (511) f_489 := hf_489
        have hx_490 : rg (0) (9) x_490 := hx_490
        refine lv_iload hx hb dX7_heedPlace_31 (lv_at hl 0 rfl) ?_
        refine lv_aload_n hx hb dX7_heedPlace_33 rfl (lv_at hl 1 rfl) ?_
        refine va_get (D := (dC, dI)) (ci := 7) (v := .int a1) (C := RX7) (T := TX7) (N := 14) hx hb hts hinX7 hown hK hP 0 rfl rfl 7 (by decide) (hts (.fieldLink RX7 34 "MayRings$Ways" "size" "I") (List.mem_of_getElem? (i := 1) rfl)) (fun _ h9 => h9) rfl dX7_heedPlace_34 ?_
        refine lv_icmp_ge (tgt := 76) hx hb dX7_heedPlace_37 (by decide) (fun c_505 => ?_) (fun c_505 => ?_)
        · skip
          have h_506 : rg (1) (9) x_490 := by have ha := hx_490; have hb_ := h_350; simp only [rg, fa_lt, fa_le, fa_eq] at ha hb_ c_505; simp only [rg]; omega
          have hP9 := hP.sub (ws' := [(h0, .inr (7, [.ref h1, .ref h2, .ref h3, .ref h4, .ref h5, .ref h6, .int a0, .int a1, .int a2, .int a3, .int a4, .int a5, .int a6, .int a7])), (h1, .inl (cI, 9, .inl f_489))]) [0, 1] rfl
          have hD9 := hD.sub (ws' := [(h0, .inr (7, [.ref h1, .ref h2, .ref h3, .ref h4, .ref h5, .ref h6, .int a0, .int a1, .int a2, .int a3, .int a4, .int a5, .int a6, .int a7])), (h1, .inl (cI, 9, .inl f_489))]) [0, 1] (by decide) rfl
          exact W.vret hx hb hr (fun t ht hW => ⟨⟨(), rfl, trivial, ⟨a4, f_489, (rg_mono ha4 (by decide) (by decide)), hf_489, by rw [ht]; exact hP9, hD9⟩⟩, hS.F ht⟩) hS.2.2 dX7_heedPlace_76
        · skip
          have h_507 : rg (0) (8) x_490 := by have ha := hx_490; have hb_ := h_350; simp only [rg, fa_lt, fa_le, fa_eq] at ha hb_ c_505; simp only [rg]; omega
          refine lv_iload hx hb dX7_heedPlace_40 (lv_at hl 0 rfl) ?_
          refine lv_iload_n hx hb dX7_heedPlace_42 rfl (lv_at hl 3 rfl) ?_
          refine lv_icmp_ne (tgt := 50) hx hb dX7_heedPlace_43 (by decide) (fun c_508 => ?_) (fun c_508 => ?_)
          · skip
            refine lv_iconst (v := 0) hx hb dX7_heedPlace_50 (by decide) ?_
            refine lv_iload_n hx hb dX7_heedPlace_51 rfl (lv_at hl 4 rfl) ?_
            refine lv_icmp_eq (tgt := 70) hx hb dX7_heedPlace_52 (by decide) (fun c_509 => ?_) (fun c_509 => ?_)
            · skip
              exfalso; have ha := (rg_k (x := 0) (c := 0) (by decide)); have hb_ := h_172; simp only [rg, fa_lt, fa_le, fa_eq, (by decide : (0 : Int32).toInt = 0)] at ha hb_ c_509; omega
            · skip
              refine lv_aload_n hx hb dX7_heedPlace_55 rfl (lv_at hl 1 rfl) ?_
              refine va_get (D := (dC, dI)) (ci := 7) (v := .ref h1) (C := RX7) (T := TX7) (N := 14) hx hb hts hinX7 hown hK hP 0 rfl rfl 0 (by decide) (hts (.fieldLink RX7 9 "MayRings$Ways" "ground" "[I") (List.mem_of_getElem? (i := 2) rfl)) (fun _ h9 => h9) rfl dX7_heedPlace_56 ?_
              refine lv_iload hx hb dX7_heedPlace_59 (lv_at hl 0 rfl) ?_
              refine lv_dup2_11 hx hb dX7_heedPlace_61 rfl rfl ?_
              refine va_iald hx hb hK hP 1 1 rfl rfl (rg_in (n := 9) (rg_mono h_507 (by decide) (by decide))) dX7_heedPlace_62 ?_
              refine lv_topi (fun x_510 ex_510 => ?_)
              have hx_510 : rg (0) (511) x_510 := by rw [ex_510]; exact rg_mono (hf_489 _) (by decide) (by decide)
              refine lv_iconst (v := 1) hx hb dX7_heedPlace_63 (by decide) ?_
              refine lv_iload_n hx hb dX7_heedPlace_64 rfl (lv_at hl 2 rfl) ?_
              refine lv_ishl hx hb dX7_heedPlace_65 ?_
              refine lv_topi (fun x_511 ex_511 => ?_)
              have hx_511 : rg (1) (256) x_511 := by rw [ex_511]; exact rg_mono (rg_shl1 8 (rg_mono hp0 (by decide) (by decide)) (by decide)) (by decide) (by decide)
              refine lv_iconst (v := (-1)) hx hb dX7_heedPlace_66 (by decide) ?_
              refine lv_ixor hx hb dX7_heedPlace_67 ?_
              refine lv_topi (fun x_512 ex_512 => ?_)
              refine lv_iand hx hb dX7_heedPlace_68 ?_
              refine lv_topi (fun x_513 ex_513 => ?_)
              have hx_513 : rg (0) (511) x_513 := by rw [ex_513]; exact rg_mono (rg_andl (b := 511) (rg_mono hx_510 (by decide) (by decide))) (by decide) (by decide)
              have kx_513_0 : rg 1 2147483647 x_513 → rg 1 (511) x_510 := fun hq => rg_andP hx_510 (ex_513 ▸ hq)
              refine va_iast hx hb hK hP hD hS 1 1 rfl rfl (rg_in (n := 9) (rg_mono h_507 (by decide) (by decide))) dX7_heedPlace_69 (fun H locs hP hD hS => ?_)
              obtain ⟨f_514, ef_514⟩ : ∃ f : Nat → Int32, f = upd f_489 (x_490 : Int32).toNatClampNeg x_513 := ⟨_, rfl⟩
              rw [← ef_514] at hP hD
              have hf_514 : rgA (0) (511) f_514 := by rw [ef_514]; exact rgA_upd hf_489 (rg_mono hx_513 (by decide) (by decide))
              clear ef_514
              have hP : va_P (dC, dI) vwCl [(h0, .inr (7, [.ref h1, .ref h2, .ref h3, .ref h4, .ref h5, .ref h6, .int a0, .int a1, .int a2, .int a3, .int a4, .int a5, .int a6, .int a7])), (h1, .inl (cI, 9, .inl f_514))] H := hP
              have hD : va_D A [(h0, .inr (7, [.ref h1, .ref h2, .ref h3, .ref h4, .ref h5, .ref h6, .int a0, .int a1, .int a2, .int a3, .int a4, .int a5, .int a6, .int a7])), (h1, .inl (cI, 9, .inl f_514))] := hD
              obtain ⟨x_515, ex_515⟩ : ∃ y : Int32, y = x_490 + Int32.ofInt (1) := ⟨_, rfl⟩
              have hx_515 : rg (1) (9) x_515 := by rw [ex_515]; exact rg_mono (rg_add h_507 (rg_k (x := Int32.ofInt (1)) (c := 1) (by decide)) (by decide) (by decide)) (by decide) (by decide)
              have qx_515 : x_515.toInt = x_490.toInt + (1) := by rw [ex_515]; exact rg_addE h_507 (rg_k (x := Int32.ofInt (1)) (c := 1) (by decide)) (by decide) (by decide) (by decide)
              refine lv_iinc (v := x_515) (lv' := [(4, .int x_515), (0, .ref h0), (1, .int p0), (2, .int p1), (3, .int p2)]) hx hb dX7_heedPlace_70 hl (k := 0) rfl (ex_515.symm) (by decide) rfl (fun ls hl => ?_)
              clear ex_515
              refine lv_goto (tgt := 31) hx hb dX7_heedPlace_73 (by decide) ?_
              exact ih_504 (f_514, x_515) H locs ls ⟨hP.sub (ws' := [(h0, .inr (7, [.ref h1, .ref h2, .ref h3, .ref h4, .ref h5, .ref h6, .int a0, .int a1, .int a2, .int a3, .int a4, .int a5, .int a6, .int a7])), (h1, .inl (cI, 9, .inl f_514))]) [0, 1] rfl, hD.sub (ws' := [(h0, .inr (7, [.ref h1, .ref h2, .ref h3, .ref h4, .ref h5, .ref h6, .int a0, .int a1, .int a2, .int a3, .int a4, .int a5, .int a6, .int a7])), (h1, .inl (cI, 9, .inl f_514))]) [0, 1] (by decide) rfl, hS, lv_sub hl [0, 1, 2, 3, 4] rfl, hf_514, (rg_mono hx_515 (by decide) (by decide))⟩ (by show ((9) - x_515.toInt).toNat < ((9) - x_490.toInt).toNat; have ha := h_507; simp only [rg] at ha; omega)
          · skip
            refine lv_iconst (v := 1) hx hb dX7_heedPlace_46 (by decide) ?_
            refine lv_goto (tgt := 51) hx hb dX7_heedPlace_47 (by decide) ?_
            refine lv_iload_n hx hb dX7_heedPlace_51 rfl (lv_at hl 4 rfl) ?_
            refine lv_icmp_eq (tgt := 70) hx hb dX7_heedPlace_52 (by decide) (fun c_516 => ?_) (fun c_516 => ?_)
            · skip
              obtain ⟨x_517, ex_517⟩ : ∃ y : Int32, y = x_490 + Int32.ofInt (1) := ⟨_, rfl⟩
              have hx_517 : rg (1) (9) x_517 := by rw [ex_517]; exact rg_mono (rg_add h_507 (rg_k (x := Int32.ofInt (1)) (c := 1) (by decide)) (by decide) (by decide)) (by decide) (by decide)
              have qx_517 : x_517.toInt = x_490.toInt + (1) := by rw [ex_517]; exact rg_addE h_507 (rg_k (x := Int32.ofInt (1)) (c := 1) (by decide)) (by decide) (by decide) (by decide)
              refine lv_iinc (v := x_517) (lv' := [(4, .int x_517), (0, .ref h0), (1, .int p0), (2, .int p1), (3, .int p2)]) hx hb dX7_heedPlace_70 hl (k := 0) rfl (ex_517.symm) (by decide) rfl (fun ls hl => ?_)
              clear ex_517
              refine lv_goto (tgt := 31) hx hb dX7_heedPlace_73 (by decide) ?_
              exact ih_504 (f_489, x_517) H locs ls ⟨hP.sub (ws' := [(h0, .inr (7, [.ref h1, .ref h2, .ref h3, .ref h4, .ref h5, .ref h6, .int a0, .int a1, .int a2, .int a3, .int a4, .int a5, .int a6, .int a7])), (h1, .inl (cI, 9, .inl f_489))]) [0, 1] rfl, hD.sub (ws' := [(h0, .inr (7, [.ref h1, .ref h2, .ref h3, .ref h4, .ref h5, .ref h6, .int a0, .int a1, .int a2, .int a3, .int a4, .int a5, .int a6, .int a7])), (h1, .inl (cI, 9, .inl f_489))]) [0, 1] (by decide) rfl, hS, lv_sub hl [0, 1, 2, 3, 4] rfl, hf_489, (rg_mono hx_517 (by decide) (by decide))⟩ (by show ((9) - x_517.toInt).toNat < ((9) - x_490.toInt).toNat; have ha := h_507; simp only [rg] at ha; omega)
            · skip
              exfalso; have ha := (rg_k (x := 1) (c := 1) (by decide)); have hb_ := h_172; simp only [rg, fa_lt, fa_le, fa_eq, (by decide : (1 : Int32).toInt = 1)] at ha hb_ c_516; omega
      · skip
        have h_518 : rg (0) (8) a1 := by have ha := hp1; have hb_ := ha1; simp only [rg, fa_lt, fa_le, fa_eq] at ha hb_ c_349; simp only [rg]; omega
        refine lv_aload_n hx hb dX7_heedPlace_23 rfl (lv_at hl 0 rfl) ?_
        refine lv_iconst (v := 1) hx hb dX7_heedPlace_24 (by decide) ?_
        refine va_put (D := (dC, dI)) (ci := 7) (v := .int 1) (ty := .boolean) (C := RX7) (T := TX7) (N := 14) hx hb hts hinX7 tyX7 tyX7_ok nmX7 hown hK hP hD hS 0 rfl rfl 10 (by decide) (hts (.fieldLink RX7 44 "MayRings$Ways" "never" "Z") (List.mem_of_getElem? (i := 4) rfl)) (fun _ h9 => h9) rfl (by decide +kernel) (rfl) (rfl) (Nat.le_of_ble_eq_true rfl) dX7_heedPlace_25 (fun H locs hP hD hS => ?_)
        have hP : va_P (dC, dI) vwCl [(h0, .inr (7, [.ref h1, .ref h2, .ref h3, .ref h4, .ref h5, .ref h6, .int a0, .int a1, .int a2, .int a3, .int 1, .int a5, .int a6, .int a7])), (h1, .inl (cI, 9, .inl g0))] H := hP
        have hD : va_D A [(h0, .inr (7, [.ref h1, .ref h2, .ref h3, .ref h4, .ref h5, .ref h6, .int a0, .int a1, .int a2, .int a3, .int 1, .int a5, .int a6, .int a7])), (h1, .inl (cI, 9, .inl g0))] := hD
        refine lv_iconst (v := 0) hx hb dX7_heedPlace_28 (by decide) ?_
        refine lv_istore (lv' := [(4, .int 0), (0, .ref h0), (1, .int p0), (2, .int p1), (3, .int p2)]) hx hb dX7_heedPlace_29 hl (by decide) rfl (fun ls hl => ?_)
        refine W_loopM (σ := (Nat → Int32) × Int32) (fun u H locs ls => va_P (dC, dI) vwCl [(h0, .inr (7, [.ref h1, .ref h2, .ref h3, .ref h4, .ref h5, .ref h6, .int a0, .int a1, .int a2, .int a3, .int 1, .int a5, .int a6, .int a7])), (h1, .inl (cI, 9, .inl u.1))] H ∧ va_D A [(h0, .inr (7, [.ref h1, .ref h2, .ref h3, .ref h4, .ref h5, .ref h6, .int a0, .int a1, .int a2, .int a3, .int 1, .int a5, .int a6, .int a7])), (h1, .inl (cI, 9, .inl u.1))] ∧ va_S A s.heap H locs ∧ lv_has ls 5 [(4, .int u.2), (0, .ref h0), (1, .int p0), (2, .int p1), (3, .int p2)] ∧ rgA (0) (511) u.1 ∧ rg (0) (8) u.2) (fun u => ((8) - u.2.toInt).toNat) 31 [] ?_ (g0, 0) H locs ls ⟨hP, hD, hS, hl, hg0, (rg_mono (rg_k (x := 0) (c := 0) (by decide)) (by decide) (by decide))⟩
        rintro ⟨f_644, x_645⟩ H locs ls ⟨hP, hD, hS, hl, hf_644, hx_645⟩ ih_660
        have hP : va_P (dC, dI) vwCl [(h0, .inr (7, [.ref h1, .ref h2, .ref h3, .ref h4, .ref h5, .ref h6, .int a0, .int a1, .int a2, .int a3, .int 1, .int a5, .int a6, .int a7])), (h1, .inl (cI, 9, .inl f_644))] H := hP
        have hD : va_D A [(h0, .inr (7, [.ref h1, .ref h2, .ref h3, .ref h4, .ref h5, .ref h6, .int a0, .int a1, .int a2, .int a3, .int 1, .int a5, .int a6, .int a7])), (h1, .inl (cI, 9, .inl f_644))] := hD
        have hl : lv_has ls 5 [(4, .int x_645), (0, .ref h0), (1, .int p0), (2, .int p1), (3, .int p2)] := hl
        have hf_644 : rgA (0) (511) f_644 := hf_644
        have hx_645 : rg (0) (8) x_645 := hx_645
        refine lv_iload hx hb dX7_heedPlace_31 (lv_at hl 0 rfl) ?_
        refine lv_aload_n hx hb dX7_heedPlace_33 rfl (lv_at hl 1 rfl) ?_
        refine va_get (D := (dC, dI)) (ci := 7) (v := .int a1) (C := RX7) (T := TX7) (N := 14) hx hb hts hinX7 hown hK hP 0 rfl rfl 7 (by decide) (hts (.fieldLink RX7 34 "MayRings$Ways" "size" "I") (List.mem_of_getElem? (i := 1) rfl)) (fun _ h9 => h9) rfl dX7_heedPlace_34 ?_
        refine lv_icmp_ge (tgt := 76) hx hb dX7_heedPlace_37 (by decide) (fun c_661 => ?_) (fun c_661 => ?_)
        · skip
          have hP9 := hP.sub (ws' := [(h0, .inr (7, [.ref h1, .ref h2, .ref h3, .ref h4, .ref h5, .ref h6, .int a0, .int a1, .int a2, .int a3, .int 1, .int a5, .int a6, .int a7])), (h1, .inl (cI, 9, .inl f_644))]) [0, 1] rfl
          have hD9 := hD.sub (ws' := [(h0, .inr (7, [.ref h1, .ref h2, .ref h3, .ref h4, .ref h5, .ref h6, .int a0, .int a1, .int a2, .int a3, .int 1, .int a5, .int a6, .int a7])), (h1, .inl (cI, 9, .inl f_644))]) [0, 1] (by decide) rfl
          exact W.vret hx hb hr (fun t ht hW => ⟨⟨(), rfl, trivial, ⟨1, f_644, (rg_mono (rg_k (x := 1) (c := 1) (by decide)) (by decide) (by decide)), hf_644, by rw [ht]; exact hP9, hD9⟩⟩, hS.F ht⟩) hS.2.2 dX7_heedPlace_76
        · skip
          have h_662 : rg (0) (7) x_645 := by have ha := hx_645; have hb_ := h_518; simp only [rg, fa_lt, fa_le, fa_eq] at ha hb_ c_661; simp only [rg]; omega
          have h_663 : rg (1) (8) a1 := by have ha := hx_645; have hb_ := h_518; simp only [rg, fa_lt, fa_le, fa_eq] at ha hb_ c_661; simp only [rg]; omega
          refine lv_iload hx hb dX7_heedPlace_40 (lv_at hl 0 rfl) ?_
          refine lv_iload_n hx hb dX7_heedPlace_42 rfl (lv_at hl 3 rfl) ?_
          refine lv_icmp_ne (tgt := 50) hx hb dX7_heedPlace_43 (by decide) (fun c_664 => ?_) (fun c_664 => ?_)
          · skip
            refine lv_iconst (v := 0) hx hb dX7_heedPlace_50 (by decide) ?_
            refine lv_iload_n hx hb dX7_heedPlace_51 rfl (lv_at hl 4 rfl) ?_
            refine lv_icmp_eq (tgt := 70) hx hb dX7_heedPlace_52 (by decide) (fun c_665 => ?_) (fun c_665 => ?_)
            · skip
              exfalso; have ha := (rg_k (x := 0) (c := 0) (by decide)); have hb_ := h_172; simp only [rg, fa_lt, fa_le, fa_eq, (by decide : (0 : Int32).toInt = 0)] at ha hb_ c_665; omega
            · skip
              refine lv_aload_n hx hb dX7_heedPlace_55 rfl (lv_at hl 1 rfl) ?_
              refine va_get (D := (dC, dI)) (ci := 7) (v := .ref h1) (C := RX7) (T := TX7) (N := 14) hx hb hts hinX7 hown hK hP 0 rfl rfl 0 (by decide) (hts (.fieldLink RX7 9 "MayRings$Ways" "ground" "[I") (List.mem_of_getElem? (i := 2) rfl)) (fun _ h9 => h9) rfl dX7_heedPlace_56 ?_
              refine lv_iload hx hb dX7_heedPlace_59 (lv_at hl 0 rfl) ?_
              refine lv_dup2_11 hx hb dX7_heedPlace_61 rfl rfl ?_
              refine va_iald hx hb hK hP 1 1 rfl rfl (rg_in (n := 9) (rg_mono h_662 (by decide) (by decide))) dX7_heedPlace_62 ?_
              refine lv_topi (fun x_666 ex_666 => ?_)
              have hx_666 : rg (0) (511) x_666 := by rw [ex_666]; exact rg_mono (hf_644 _) (by decide) (by decide)
              refine lv_iconst (v := 1) hx hb dX7_heedPlace_63 (by decide) ?_
              refine lv_iload_n hx hb dX7_heedPlace_64 rfl (lv_at hl 2 rfl) ?_
              refine lv_ishl hx hb dX7_heedPlace_65 ?_
              refine lv_topi (fun x_667 ex_667 => ?_)
              have hx_667 : rg (1) (256) x_667 := by rw [ex_667]; exact rg_mono (rg_shl1 8 (rg_mono hp0 (by decide) (by decide)) (by decide)) (by decide) (by decide)
              refine lv_iconst (v := (-1)) hx hb dX7_heedPlace_66 (by decide) ?_
              refine lv_ixor hx hb dX7_heedPlace_67 ?_
              refine lv_topi (fun x_668 ex_668 => ?_)
              refine lv_iand hx hb dX7_heedPlace_68 ?_
              refine lv_topi (fun x_669 ex_669 => ?_)
              have hx_669 : rg (0) (511) x_669 := by rw [ex_669]; exact rg_mono (rg_andl (b := 511) (rg_mono hx_666 (by decide) (by decide))) (by decide) (by decide)
              have kx_669_0 : rg 1 2147483647 x_669 → rg 1 (511) x_666 := fun hq => rg_andP hx_666 (ex_669 ▸ hq)
              refine va_iast hx hb hK hP hD hS 1 1 rfl rfl (rg_in (n := 9) (rg_mono h_662 (by decide) (by decide))) dX7_heedPlace_69 (fun H locs hP hD hS => ?_)
              obtain ⟨f_670, ef_670⟩ : ∃ f : Nat → Int32, f = upd f_644 (x_645 : Int32).toNatClampNeg x_669 := ⟨_, rfl⟩
              rw [← ef_670] at hP hD
              have hf_670 : rgA (0) (511) f_670 := by rw [ef_670]; exact rgA_upd hf_644 (rg_mono hx_669 (by decide) (by decide))
              clear ef_670
              have hP : va_P (dC, dI) vwCl [(h0, .inr (7, [.ref h1, .ref h2, .ref h3, .ref h4, .ref h5, .ref h6, .int a0, .int a1, .int a2, .int a3, .int 1, .int a5, .int a6, .int a7])), (h1, .inl (cI, 9, .inl f_670))] H := hP
              have hD : va_D A [(h0, .inr (7, [.ref h1, .ref h2, .ref h3, .ref h4, .ref h5, .ref h6, .int a0, .int a1, .int a2, .int a3, .int 1, .int a5, .int a6, .int a7])), (h1, .inl (cI, 9, .inl f_670))] := hD
              obtain ⟨x_671, ex_671⟩ : ∃ y : Int32, y = x_645 + Int32.ofInt (1) := ⟨_, rfl⟩
              have hx_671 : rg (1) (8) x_671 := by rw [ex_671]; exact rg_mono (rg_add h_662 (rg_k (x := Int32.ofInt (1)) (c := 1) (by decide)) (by decide) (by decide)) (by decide) (by decide)
              have qx_671 : x_671.toInt = x_645.toInt + (1) := by rw [ex_671]; exact rg_addE h_662 (rg_k (x := Int32.ofInt (1)) (c := 1) (by decide)) (by decide) (by decide) (by decide)
              refine lv_iinc (v := x_671) (lv' := [(4, .int x_671), (0, .ref h0), (1, .int p0), (2, .int p1), (3, .int p2)]) hx hb dX7_heedPlace_70 hl (k := 0) rfl (ex_671.symm) (by decide) rfl (fun ls hl => ?_)
              clear ex_671
              refine lv_goto (tgt := 31) hx hb dX7_heedPlace_73 (by decide) ?_
              exact ih_660 (f_670, x_671) H locs ls ⟨hP.sub (ws' := [(h0, .inr (7, [.ref h1, .ref h2, .ref h3, .ref h4, .ref h5, .ref h6, .int a0, .int a1, .int a2, .int a3, .int 1, .int a5, .int a6, .int a7])), (h1, .inl (cI, 9, .inl f_670))]) [0, 1] rfl, hD.sub (ws' := [(h0, .inr (7, [.ref h1, .ref h2, .ref h3, .ref h4, .ref h5, .ref h6, .int a0, .int a1, .int a2, .int a3, .int 1, .int a5, .int a6, .int a7])), (h1, .inl (cI, 9, .inl f_670))]) [0, 1] (by decide) rfl, hS, lv_sub hl [0, 1, 2, 3, 4] rfl, hf_670, (rg_mono hx_671 (by decide) (by decide))⟩ (by show ((8) - x_671.toInt).toNat < ((8) - x_645.toInt).toNat; have ha := h_662; simp only [rg] at ha; omega)
          · skip
            have h_672 : rg (0) (7) p1 := by have ha := h_662; have hb_ := hp1; simp only [rg, fa_lt, fa_le, fa_eq] at ha hb_ c_664; simp only [rg]; omega
            refine lv_iconst (v := 1) hx hb dX7_heedPlace_46 (by decide) ?_
            refine lv_goto (tgt := 51) hx hb dX7_heedPlace_47 (by decide) ?_
            refine lv_iload_n hx hb dX7_heedPlace_51 rfl (lv_at hl 4 rfl) ?_
            refine lv_icmp_eq (tgt := 70) hx hb dX7_heedPlace_52 (by decide) (fun c_673 => ?_) (fun c_673 => ?_)
            · skip
              obtain ⟨x_674, ex_674⟩ : ∃ y : Int32, y = x_645 + Int32.ofInt (1) := ⟨_, rfl⟩
              have hx_674 : rg (1) (8) x_674 := by rw [ex_674]; exact rg_mono (rg_add h_662 (rg_k (x := Int32.ofInt (1)) (c := 1) (by decide)) (by decide) (by decide)) (by decide) (by decide)
              have qx_674 : x_674.toInt = x_645.toInt + (1) := by rw [ex_674]; exact rg_addE h_662 (rg_k (x := Int32.ofInt (1)) (c := 1) (by decide)) (by decide) (by decide) (by decide)
              refine lv_iinc (v := x_674) (lv' := [(4, .int x_674), (0, .ref h0), (1, .int p0), (2, .int p1), (3, .int p2)]) hx hb dX7_heedPlace_70 hl (k := 0) rfl (ex_674.symm) (by decide) rfl (fun ls hl => ?_)
              clear ex_674
              refine lv_goto (tgt := 31) hx hb dX7_heedPlace_73 (by decide) ?_
              exact ih_660 (f_644, x_674) H locs ls ⟨hP.sub (ws' := [(h0, .inr (7, [.ref h1, .ref h2, .ref h3, .ref h4, .ref h5, .ref h6, .int a0, .int a1, .int a2, .int a3, .int 1, .int a5, .int a6, .int a7])), (h1, .inl (cI, 9, .inl f_644))]) [0, 1] rfl, hD.sub (ws' := [(h0, .inr (7, [.ref h1, .ref h2, .ref h3, .ref h4, .ref h5, .ref h6, .int a0, .int a1, .int a2, .int a3, .int 1, .int a5, .int a6, .int a7])), (h1, .inl (cI, 9, .inl f_644))]) [0, 1] (by decide) rfl, hS, lv_sub hl [0, 1, 2, 3, 4] rfl, hf_644, (rg_mono hx_674 (by decide) (by decide))⟩ (by show ((8) - x_674.toInt).toNat < ((8) - x_645.toInt).toNat; have ha := h_662; simp only [rg] at ha; omega)
            · skip
              exfalso; have ha := (rg_k (x := 1) (c := 1) (by decide)); have hb_ := h_172; simp only [rg, fa_lt, fa_le, fa_eq, (by decide : (1 : Int32).toInt = 1)] at ha hb_ c_673; omega
def v_s_X2_ask : List Cond := Cond.code yX2_ask cX2_ask 5 none :: ([Cond.fieldLink RX2 31 "MayRings$Letters" "count" "I", Cond.fieldLink RX2 25 "MayRings$Letters" "toldAt" "[I", Cond.fieldLink RX2 28 "MayRings$Letters" "untoldAt" "[I", Cond.fieldLink RX2 18 "MayRings$Letters" "ofPlace" "[Z", Cond.fieldLink RX2 11 "MayRings$Letters" "house" "[I", Cond.fieldLink RX2 15 "MayRings$Letters" "where" "[I", Cond.fieldLink RX2 22 "MayRings$Letters" "isSo" "[Z", Cond.methodLink RX2 44 yX7_heedPair, Cond.instanceMethod yX7_heedPair, Cond.selects RX7 yX7_heedPair yX7_heedPair, Cond.initialized RX7, Cond.methodLink RX2 38 yX7_heedPlace, Cond.instanceMethod yX7_heedPlace, Cond.selects RX7 yX7_heedPlace yX7_heedPlace] ++ (wsX20 ++ (v_s_X7_heedPair ++ (v_s_X7_heedPlace ++ ([])))))
theorem k_s_X2_ask : GoodIn lw_tbl v_s_X2_ask := gd_c (List.mem_of_getElem? (i := 1178) (by decide +kernel)) rfl (goodIn_app (gd_c (List.mem_of_getElem? (i := 410) (by decide +kernel)) rfl (gd_c (List.mem_of_getElem? (i := 408) (by decide +kernel)) rfl (gd_c (List.mem_of_getElem? (i := 409) (by decide +kernel)) rfl (gd_c (List.mem_of_getElem? (i := 406) (by decide +kernel)) rfl (gd_c (List.mem_of_getElem? (i := 404) (by decide +kernel)) rfl (gd_c (List.mem_of_getElem? (i := 405) (by decide +kernel)) rfl (gd_c (List.mem_of_getElem? (i := 407) (by decide +kernel)) rfl (gd_c (List.mem_of_getElem? (i := 1183) (by decide +kernel)) rfl (gd_c (List.mem_of_getElem? (i := 1184) (by decide +kernel)) rfl (gd_c (List.mem_of_getElem? (i := 1185) (by decide +kernel)) rfl (gd_c (List.mem_of_getElem? (i := 142) (by decide +kernel)) rfl (gd_c (List.mem_of_getElem? (i := 1179) (by decide +kernel)) rfl (gd_c (List.mem_of_getElem? (i := 1180) (by decide +kernel)) rfl (gd_c (List.mem_of_getElem? (i := 1181) (by decide +kernel)) rfl (gd_nil))))))))))))))) (goodIn_app kfX2 (goodIn_app k_s_X7_heedPair (goodIn_app k_s_X7_heedPlace (gd_nil)))))
set_option maxHeartbeats 2000000 in
set_option maxRecDepth 100000 in
theorem c_s_X2_ask (l : Launch) (dC : Nat → ClassId) (dI : Nat → Nat → Nat) (cB cI cJ cZ cP : ClassId) (h0 : Nat) (h1 : Nat) (g0 : Nat → Int32) (hg0 : rgA (0) (8) g0) (h2 : Nat) (g1 : Nat → Int32) (hg1 : rgA (0) (8) g1) (h3 : Nat) (g2 : Nat → Int32) (hg2 : rgA (0) (1) g2) (h4 : Nat) (g3 : Nat → Int32) (hg3 : rgA (0) (1) g3) (h5 : Nat) (g4 : Nat → Int32) (h6 : Nat) (g5 : Nat → Int32) (a0 : Int32) (ha0 : rg (0) (20) a0) (a1 : Int32) (h7 : Nat) (h8 : Nat) (g6 : Nat → Int32) (hg6 : rgA (0) (511) g6) (h9 : Nat) (g7 : Nat → Int32) (hg7 : rgA (0) (511) g7) (h10 : Nat) (g8 : Nat → Int32) (hg8 : rgA (0) (511) g8) (h11 : Nat) (h12 : Nat) (h13 : Nat) (a2 : Int32) (ha2 : rg (0) (511) a2) (a3 : Int32) (ha3 : rg (0) (9) a3) (a4 : Int32) (a5 : Int32) (a6 : Int32) (ha6 : rg (0) (1) a6) (a7 : Int32) (a8 : Int32) (a9 : Int32) (p1 : Int32) (sz : Nat) : Met l yX2_ask v_s_X2_ask ({ frames := 1, cells := 0, slots := 0, locals := 24 }) (va_Pc [.ref h0, .ref h7, .int p1] (fun U => U.heap.size = sz ∧ va_P (dC, dI) vwCl [(h0, .inr (2, [.ref h1, .ref h2, .ref h3, .ref h4, .ref h5, .ref h6, .int a0, .int a1])), (h1, .inl (cI, 20, .inl g0)), (h2, .inl (cI, 20, .inl g1)), (h3, .inl (cZ, 20, .inl g2)), (h4, .inl (cZ, 20, .inl g3)), (h5, .inl (cI, 20, .inl g4)), (h6, .inl (cI, 20, .inl g5)), (h7, .inr (7, [.ref h8, .ref h9, .ref h10, .ref h11, .ref h12, .ref h13, .int a2, .int a3, .int a4, .int a5, .int a6, .int a7, .int a8, .int a9])), (h8, .inl (cI, 9, .inl g6)), (h9, .inl (cI, 9, .inl g7)), (h10, .inl (cI, 9, .inl g8))] U.heap ∧ va_K (dC, dI) vwCl (ty5 cB cI cJ cZ cP) U ∧ va_D (fun _ => True) [(h0, .inr (2, [.ref h1, .ref h2, .ref h3, .ref h4, .ref h5, .ref h6, .int a0, .int a1])), (h1, .inl (cI, 20, .inl g0)), (h2, .inl (cI, 20, .inl g1)), (h3, .inl (cZ, 20, .inl g2)), (h4, .inl (cZ, 20, .inl g3)), (h5, .inl (cI, 20, .inl g4)), (h6, .inl (cI, 20, .inl g5)), (h7, .inr (7, [.ref h8, .ref h9, .ref h10, .ref h11, .ref h12, .ref h13, .int a2, .int a3, .int a4, .int a5, .int a6, .int a7, .int a8, .int a9])), (h8, .inl (cI, 9, .inl g6)), (h9, .inl (cI, 9, .inl g7)), (h10, .inl (cI, 9, .inl g8))])) (va_Qv (fun _ : Unit => True) (fun _ t => ∃ (z0 : Int32) (z1 : Nat → Int32) (z2 : Nat → Int32) (z3 : Nat → Int32), rg (0) (1) z0 ∧ rgA (0) (511) z1 ∧ rgA (0) (511) z2 ∧ rgA (0) (511) z3 ∧ va_P (dC, dI) vwCl [(h0, .inr (2, [.ref h1, .ref h2, .ref h3, .ref h4, .ref h5, .ref h6, .int a0, .int a1])), (h1, .inl (cI, 20, .inl g0)), (h2, .inl (cI, 20, .inl g1)), (h3, .inl (cZ, 20, .inl g2)), (h4, .inl (cZ, 20, .inl g3)), (h5, .inl (cI, 20, .inl g4)), (h6, .inl (cI, 20, .inl g5)), (h7, .inr (7, [.ref h8, .ref h9, .ref h10, .ref h11, .ref h12, .ref h13, .int a2, .int a3, .int a4, .int a5, .int z0, .int a7, .int a8, .int a9])), (h8, .inl (cI, 9, .inl z1)), (h9, .inl (cI, 9, .inl z2)), (h10, .inl (cI, 9, .inl z3))] t.heap ∧ va_D (va_A [(h0, .inr (2, [.ref h1, .ref h2, .ref h3, .ref h4, .ref h5, .ref h6, .int a0, .int a1])), (h1, .inl (cI, 20, .inl g0)), (h2, .inl (cI, 20, .inl g1)), (h3, .inl (cZ, 20, .inl g2)), (h4, .inl (cZ, 20, .inl g3)), (h5, .inl (cI, 20, .inl g4)), (h6, .inl (cI, 20, .inl g5)), (h7, .inr (7, [.ref h8, .ref h9, .ref h10, .ref h11, .ref h12, .ref h13, .int a2, .int a3, .int a4, .int a5, .int a6, .int a7, .int a8, .int a9])), (h8, .inl (cI, 9, .inl g6)), (h9, .inl (cI, 9, .inl g7)), (h10, .inl (cI, 9, .inl g8))] sz) [(h0, .inr (2, [.ref h1, .ref h2, .ref h3, .ref h4, .ref h5, .ref h6, .int a0, .int a1])), (h1, .inl (cI, 20, .inl g0)), (h2, .inl (cI, 20, .inl g1)), (h3, .inl (cZ, 20, .inl g2)), (h4, .inl (cZ, 20, .inl g3)), (h5, .inl (cI, 20, .inl g4)), (h6, .inl (cI, 20, .inl g5)), (h7, .inr (7, [.ref h8, .ref h9, .ref h10, .ref h11, .ref h12, .ref h13, .int a2, .int a3, .int a4, .int a5, .int z0, .int a7, .int a8, .int a9])), (h8, .inl (cI, 9, .inl z1)), (h9, .inl (cI, 9, .inl z2)), (h10, .inl (cI, 9, .inl z3))]) (va_A [(h0, .inr (2, [.ref h1, .ref h2, .ref h3, .ref h4, .ref h5, .ref h6, .int a0, .int a1])), (h1, .inl (cI, 20, .inl g0)), (h2, .inl (cI, 20, .inl g1)), (h3, .inl (cZ, 20, .inl g2)), (h4, .inl (cZ, 20, .inl g3)), (h5, .inl (cI, 20, .inl g4)), (h6, .inl (cI, 20, .inl g5)), (h7, .inr (7, [.ref h8, .ref h9, .ref h10, .ref h11, .ref h12, .ref h13, .int a2, .int a3, .int a4, .int a5, .int a6, .int a7, .int a8, .int a9])), (h8, .inl (cI, 9, .inl g6)), (h9, .inl (cI, 9, .inl g7)), (h10, .inl (cI, 9, .inl g8))] sz)) 0 0 (va_A [(h0, .inr (2, [.ref h1, .ref h2, .ref h3, .ref h4, .ref h5, .ref h6, .int a0, .int a1])), (h1, .inl (cI, 20, .inl g0)), (h2, .inl (cI, 20, .inl g1)), (h3, .inl (cZ, 20, .inl g2)), (h4, .inl (cZ, 20, .inl g3)), (h5, .inl (cI, 20, .inl g4)), (h6, .inl (cI, 20, .inl g5)), (h7, .inr (7, [.ref h8, .ref h9, .ref h10, .ref h11, .ref h12, .ref h13, .int a2, .int a3, .int a4, .int a5, .int a6, .int a7, .int a8, .int a9])), (h8, .inl (cI, 9, .inl g6)), (h9, .inl (cI, 9, .inl g7)), (h10, .inl (cI, 9, .inl g8))] sz) := by
  refine Met.ofW (cc := cX2_ask) (maxL := 5) (ret := none) (by decide) rfl ?_
  intro p e s m args below meth c s₁ B hml hv
  obtain ⟨rfl, hsz, hP, hK, hD0⟩ := hv
  have hx := B.exec
  have hb := B.bytes
  have hr := B.returns
  have hts := atoms_spec (ws := v_s_X2_ask) B.pre
  have hown : s.vm.findClass RX2 = some m.cls := findClass_of_methodNamed B.named
  have hlocks := B.notSynchronized
  have hinX2 : ∀ w ∈ wsX20, w ∈ v_s_X2_ask := fun _ h => List.mem_cons_of_mem _ (List.mem_append_right _ (List.mem_append_left _ h))
  subst hsz
  have hD := hD0.self (sz := s.heap.size)
  generalize hAe : va_A [(h0, .inr (2, [.ref h1, .ref h2, .ref h3, .ref h4, .ref h5, .ref h6, .int a0, .int a1])), (h1, .inl (cI, 20, .inl g0)), (h2, .inl (cI, 20, .inl g1)), (h3, .inl (cZ, 20, .inl g2)), (h4, .inl (cZ, 20, .inl g3)), (h5, .inl (cI, 20, .inl g4)), (h6, .inl (cI, 20, .inl g5)), (h7, .inr (7, [.ref h8, .ref h9, .ref h10, .ref h11, .ref h12, .ref h13, .int a2, .int a3, .int a4, .int a5, .int a6, .int a7, .int a8, .int a9])), (h8, .inl (cI, 9, .inl g6)), (h9, .inl (cI, 9, .inl g7)), (h10, .inl (cI, 9, .inl g8))] s.heap.size = A at hD ⊢
  have hA : ∀ q : Nat, s.heap.size ≤ q → A q := fun q h => by rw [← hAe]; exact Or.inr h
  have hP : va_P (dC, dI) vwCl [(h0, .inr (2, [.ref h1, .ref h2, .ref h3, .ref h4, .ref h5, .ref h6, .int a0, .int a1])), (h1, .inl (cI, 20, .inl g0)), (h2, .inl (cI, 20, .inl g1)), (h3, .inl (cZ, 20, .inl g2)), (h4, .inl (cZ, 20, .inl g3)), (h5, .inl (cI, 20, .inl g4)), (h6, .inl (cI, 20, .inl g5)), (h7, .inr (7, [.ref h8, .ref h9, .ref h10, .ref h11, .ref h12, .ref h13, .int a2, .int a3, .int a4, .int a5, .int a6, .int a7, .int a8, .int a9])), (h8, .inl (cI, 9, .inl g6)), (h9, .inl (cI, 9, .inl g7)), (h10, .inl (cI, 9, .inl g8))] s.heap := hP
  have hl := lv_entry ([.ref h0, .ref h7, .int p1]) (n := 5) (Nat.le_of_ble_eq_true rfl)
  rw [lg_entry_eq]
  generalize (lg_sl ([.ref h0, .ref h7, .int p1]) ++ List.replicate (5 - (lg_sl ([.ref h0, .ref h7, .int p1])).length) Slot.unset).toArray = ls at hl ⊢
  have hl : lv_has ls 5 [(0, .ref h0), (1, .ref h7), (2, .int p1)] := hl
  refine W_gen (A := A) hP (fun H locs hP hS => ?_)
  refine lv_iconst (v := 0) hx hb dX2_ask_0 (by decide) ?_
  refine lv_istore_n (lv' := [(3, .int 0), (0, .ref h0), (1, .ref h7), (2, .int p1)]) hx hb dX2_ask_1 rfl hl (by decide) rfl (fun ls hl => ?_)
  refine W_loopM (σ := Int32 × (Nat → Int32) × (Nat → Int32) × Int32 × (Nat → Int32)) (fun u H locs ls => va_P (dC, dI) vwCl [(h0, .inr (2, [.ref h1, .ref h2, .ref h3, .ref h4, .ref h5, .ref h6, .int a0, .int a1])), (h1, .inl (cI, 20, .inl g0)), (h2, .inl (cI, 20, .inl g1)), (h3, .inl (cZ, 20, .inl g2)), (h4, .inl (cZ, 20, .inl g3)), (h5, .inl (cI, 20, .inl g4)), (h6, .inl (cI, 20, .inl g5)), (h7, .inr (7, [.ref h8, .ref h9, .ref h10, .ref h11, .ref h12, .ref h13, .int a2, .int a3, .int a4, .int a5, .int u.2.2.2.1, .int a7, .int a8, .int a9])), (h8, .inl (cI, 9, .inl u.2.2.2.2)), (h9, .inl (cI, 9, .inl u.2.1)), (h10, .inl (cI, 9, .inl u.2.2.1))] H ∧ va_D A [(h0, .inr (2, [.ref h1, .ref h2, .ref h3, .ref h4, .ref h5, .ref h6, .int a0, .int a1])), (h1, .inl (cI, 20, .inl g0)), (h2, .inl (cI, 20, .inl g1)), (h3, .inl (cZ, 20, .inl g2)), (h4, .inl (cZ, 20, .inl g3)), (h5, .inl (cI, 20, .inl g4)), (h6, .inl (cI, 20, .inl g5)), (h7, .inr (7, [.ref h8, .ref h9, .ref h10, .ref h11, .ref h12, .ref h13, .int a2, .int a3, .int a4, .int a5, .int u.2.2.2.1, .int a7, .int a8, .int a9])), (h8, .inl (cI, 9, .inl u.2.2.2.2)), (h9, .inl (cI, 9, .inl u.2.1)), (h10, .inl (cI, 9, .inl u.2.2.1))] ∧ va_S A s.heap H locs ∧ lv_has ls 5 [(3, .int u.1), (0, .ref h0), (1, .ref h7), (2, .int p1)] ∧ rg (0) (20) u.1 ∧ rgA (0) (511) u.2.1 ∧ rgA (0) (511) u.2.2.1 ∧ rg (0) (1) u.2.2.2.1 ∧ rgA (0) (511) u.2.2.2.2) (fun u => ((20) - u.1.toInt).toNat) 2 [] ?_ (0, g7, g8, a6, g6) H locs ls ⟨hP, hD, hS, hl, (rg_mono (rg_k (x := 0) (c := 0) (by decide)) (by decide) (by decide)), hg7, hg8, (rg_mono ha6 (by decide) (by decide)), hg6⟩
  rintro ⟨x_860, f_861, f_862, x_863, f_864⟩ H locs ls ⟨hP, hD, hS, hl, hx_860, hf_861, hf_862, hx_863, hf_864⟩ ih_918
  have hP : va_P (dC, dI) vwCl [(h0, .inr (2, [.ref h1, .ref h2, .ref h3, .ref h4, .ref h5, .ref h6, .int a0, .int a1])), (h1, .inl (cI, 20, .inl g0)), (h2, .inl (cI, 20, .inl g1)), (h3, .inl (cZ, 20, .inl g2)), (h4, .inl (cZ, 20, .inl g3)), (h5, .inl (cI, 20, .inl g4)), (h6, .inl (cI, 20, .inl g5)), (h7, .inr (7, [.ref h8, .ref h9, .ref h10, .ref h11, .ref h12, .ref h13, .int a2, .int a3, .int a4, .int a5, .int x_863, .int a7, .int a8, .int a9])), (h8, .inl (cI, 9, .inl f_864)), (h9, .inl (cI, 9, .inl f_861)), (h10, .inl (cI, 9, .inl f_862))] H := hP
  have hD : va_D A [(h0, .inr (2, [.ref h1, .ref h2, .ref h3, .ref h4, .ref h5, .ref h6, .int a0, .int a1])), (h1, .inl (cI, 20, .inl g0)), (h2, .inl (cI, 20, .inl g1)), (h3, .inl (cZ, 20, .inl g2)), (h4, .inl (cZ, 20, .inl g3)), (h5, .inl (cI, 20, .inl g4)), (h6, .inl (cI, 20, .inl g5)), (h7, .inr (7, [.ref h8, .ref h9, .ref h10, .ref h11, .ref h12, .ref h13, .int a2, .int a3, .int a4, .int a5, .int x_863, .int a7, .int a8, .int a9])), (h8, .inl (cI, 9, .inl f_864)), (h9, .inl (cI, 9, .inl f_861)), (h10, .inl (cI, 9, .inl f_862))] := hD
  have hl : lv_has ls 5 [(3, .int x_860), (0, .ref h0), (1, .ref h7), (2, .int p1)] := hl
  have hx_860 : rg (0) (20) x_860 := hx_860
  have hf_861 : rgA (0) (511) f_861 := hf_861
  have hf_862 : rgA (0) (511) f_862 := hf_862
  have hx_863 : rg (0) (1) x_863 := hx_863
  have hf_864 : rgA (0) (511) f_864 := hf_864
  refine lv_iload_n hx hb dX2_ask_2 rfl (lv_at hl 0 rfl) ?_
  refine lv_aload_n hx hb dX2_ask_3 rfl (lv_at hl 1 rfl) ?_
  refine va_get (D := (dC, dI)) (ci := 2) (v := .int a0) (C := RX2) (T := TX2) (N := 8) hx hb hts hinX2 hown hK hP 0 rfl rfl 6 (by decide) (hts (.fieldLink RX2 31 "MayRings$Letters" "count" "I") (List.mem_of_getElem? (i := 1) rfl)) (fun _ h9 => h9) rfl dX2_ask_4 ?_
  refine lv_icmp_ge (tgt := 119) hx hb dX2_ask_7 (by decide) (fun c_919 => ?_) (fun c_919 => ?_)
  · skip
    have hP9 := hP.sub (ws' := [(h0, .inr (2, [.ref h1, .ref h2, .ref h3, .ref h4, .ref h5, .ref h6, .int a0, .int a1])), (h1, .inl (cI, 20, .inl g0)), (h2, .inl (cI, 20, .inl g1)), (h3, .inl (cZ, 20, .inl g2)), (h4, .inl (cZ, 20, .inl g3)), (h5, .inl (cI, 20, .inl g4)), (h6, .inl (cI, 20, .inl g5)), (h7, .inr (7, [.ref h8, .ref h9, .ref h10, .ref h11, .ref h12, .ref h13, .int a2, .int a3, .int a4, .int a5, .int x_863, .int a7, .int a8, .int a9])), (h8, .inl (cI, 9, .inl f_864)), (h9, .inl (cI, 9, .inl f_861)), (h10, .inl (cI, 9, .inl f_862))]) [0, 1, 2, 3, 4, 5, 6, 7, 8, 9, 10] rfl
    have hD9 := hD.sub (ws' := [(h0, .inr (2, [.ref h1, .ref h2, .ref h3, .ref h4, .ref h5, .ref h6, .int a0, .int a1])), (h1, .inl (cI, 20, .inl g0)), (h2, .inl (cI, 20, .inl g1)), (h3, .inl (cZ, 20, .inl g2)), (h4, .inl (cZ, 20, .inl g3)), (h5, .inl (cI, 20, .inl g4)), (h6, .inl (cI, 20, .inl g5)), (h7, .inr (7, [.ref h8, .ref h9, .ref h10, .ref h11, .ref h12, .ref h13, .int a2, .int a3, .int a4, .int a5, .int x_863, .int a7, .int a8, .int a9])), (h8, .inl (cI, 9, .inl f_864)), (h9, .inl (cI, 9, .inl f_861)), (h10, .inl (cI, 9, .inl f_862))]) [0, 1, 2, 3, 4, 5, 6, 7, 8, 9, 10] (by decide) rfl
    exact W.vret hx hb hr (fun t ht hW => ⟨⟨(), rfl, trivial, ⟨x_863, f_864, f_861, f_862, (rg_mono hx_863 (by decide) (by decide)), hf_864, hf_861, hf_862, by rw [ht]; exact hP9, hD9⟩⟩, hS.F ht⟩) hS.2.2 dX2_ask_119
  · skip
    have h_920 : rg (0) (19) x_860 := by have ha := hx_860; have hb_ := ha0; simp only [rg, fa_lt, fa_le, fa_eq] at ha hb_ c_919; simp only [rg]; omega
    have h_921 : rg (1) (20) a0 := by have ha := hx_860; have hb_ := ha0; simp only [rg, fa_lt, fa_le, fa_eq] at ha hb_ c_919; simp only [rg]; omega
    refine lv_aload_n hx hb dX2_ask_10 rfl (lv_at hl 1 rfl) ?_
    refine va_get (D := (dC, dI)) (ci := 2) (v := .ref h5) (C := RX2) (T := TX2) (N := 8) hx hb hts hinX2 hown hK hP 0 rfl rfl 4 (by decide) (hts (.fieldLink RX2 25 "MayRings$Letters" "toldAt" "[I") (List.mem_of_getElem? (i := 2) rfl)) (fun _ h9 => h9) rfl dX2_ask_11 ?_
    refine lv_iload_n hx hb dX2_ask_14 rfl (lv_at hl 0 rfl) ?_
    refine va_iald hx hb hK hP 5 1 rfl rfl (rg_in (n := 20) (rg_mono h_920 (by decide) (by decide))) dX2_ask_15 ?_
    refine lv_topi (fun x_922 ex_922 => ?_)
    refine lv_iload_n hx hb dX2_ask_16 rfl (lv_at hl 3 rfl) ?_
    refine lv_icmp_gt (tgt := 44) hx hb dX2_ask_17 (by decide) (fun c_923 => ?_) (fun c_923 => ?_)
    · skip
      have h_924 : rg (-2147483647) (2147483647) x_922 := by have ha := (rg_any x_922); have hb_ := (rg_any p1); simp only [rg, fa_lt, fa_le, fa_eq] at ha hb_ c_923; simp only [rg]; omega
      have h_925 : rg (-2147483648) (2147483646) p1 := by have ha := (rg_any x_922); have hb_ := (rg_any p1); simp only [rg, fa_lt, fa_le, fa_eq] at ha hb_ c_923; simp only [rg]; omega
      refine lv_iconst (v := 0) hx hb dX2_ask_44 (by decide) ?_
      refine lv_istore (lv' := [(4, .int 0), (3, .int x_860), (0, .ref h0), (1, .ref h7), (2, .int p1)]) hx hb dX2_ask_45 hl (by decide) rfl (fun ls hl => ?_)
      refine lv_iload hx hb dX2_ask_47 (lv_at hl 0 rfl) ?_
      refine lv_if_eq (tgt := 86) hx hb dX2_ask_49 (by decide) (fun _ => ?_) (fun cz => absurd (by decide) cz)
      refine lv_iload hx hb dX2_ask_86 (lv_at hl 0 rfl) ?_
      refine lv_if_eq (tgt := 113) hx hb dX2_ask_88 (by decide) (fun _ => ?_) (fun cz => absurd (by decide) cz)
      obtain ⟨x_926, ex_926⟩ : ∃ y : Int32, y = x_860 + Int32.ofInt (1) := ⟨_, rfl⟩
      have hx_926 : rg (1) (20) x_926 := by rw [ex_926]; exact rg_mono (rg_add h_920 (rg_k (x := Int32.ofInt (1)) (c := 1) (by decide)) (by decide) (by decide)) (by decide) (by decide)
      have qx_926 : x_926.toInt = x_860.toInt + (1) := by rw [ex_926]; exact rg_addE h_920 (rg_k (x := Int32.ofInt (1)) (c := 1) (by decide)) (by decide) (by decide) (by decide)
      refine lv_iinc (v := x_926) (lv' := [(3, .int x_926), (4, .int 0), (0, .ref h0), (1, .ref h7), (2, .int p1)]) hx hb dX2_ask_113 hl (k := 1) rfl (ex_926.symm) (by decide) rfl (fun ls hl => ?_)
      clear ex_926
      refine lv_goto (tgt := 2) hx hb dX2_ask_116 (by decide) ?_
      exact ih_918 (x_926, f_861, f_862, x_863, f_864) H locs ls ⟨hP.sub (ws' := [(h0, .inr (2, [.ref h1, .ref h2, .ref h3, .ref h4, .ref h5, .ref h6, .int a0, .int a1])), (h1, .inl (cI, 20, .inl g0)), (h2, .inl (cI, 20, .inl g1)), (h3, .inl (cZ, 20, .inl g2)), (h4, .inl (cZ, 20, .inl g3)), (h5, .inl (cI, 20, .inl g4)), (h6, .inl (cI, 20, .inl g5)), (h7, .inr (7, [.ref h8, .ref h9, .ref h10, .ref h11, .ref h12, .ref h13, .int a2, .int a3, .int a4, .int a5, .int x_863, .int a7, .int a8, .int a9])), (h8, .inl (cI, 9, .inl f_864)), (h9, .inl (cI, 9, .inl f_861)), (h10, .inl (cI, 9, .inl f_862))]) [0, 1, 2, 3, 4, 5, 6, 7, 8, 9, 10] rfl, hD.sub (ws' := [(h0, .inr (2, [.ref h1, .ref h2, .ref h3, .ref h4, .ref h5, .ref h6, .int a0, .int a1])), (h1, .inl (cI, 20, .inl g0)), (h2, .inl (cI, 20, .inl g1)), (h3, .inl (cZ, 20, .inl g2)), (h4, .inl (cZ, 20, .inl g3)), (h5, .inl (cI, 20, .inl g4)), (h6, .inl (cI, 20, .inl g5)), (h7, .inr (7, [.ref h8, .ref h9, .ref h10, .ref h11, .ref h12, .ref h13, .int a2, .int a3, .int a4, .int a5, .int x_863, .int a7, .int a8, .int a9])), (h8, .inl (cI, 9, .inl f_864)), (h9, .inl (cI, 9, .inl f_861)), (h10, .inl (cI, 9, .inl f_862))]) [0, 1, 2, 3, 4, 5, 6, 7, 8, 9, 10] (by decide) rfl, hS, lv_sub hl [0, 2, 3, 4] rfl, (rg_mono hx_926 (by decide) (by decide)), hf_861, hf_862, (rg_mono hx_863 (by decide) (by decide)), hf_864⟩ (by show ((20) - x_926.toInt).toNat < ((20) - x_860.toInt).toNat; have ha := h_920; simp only [rg] at ha; omega)
    · skip
      refine lv_aload_n hx hb dX2_ask_20 rfl (lv_at hl 1 rfl) ?_
      refine va_get (D := (dC, dI)) (ci := 2) (v := .ref h6) (C := RX2) (T := TX2) (N := 8) hx hb hts hinX2 hown hK hP 0 rfl rfl 5 (by decide) (hts (.fieldLink RX2 28 "MayRings$Letters" "untoldAt" "[I") (List.mem_of_getElem? (i := 3) rfl)) (fun _ h9 => h9) rfl dX2_ask_21 ?_
      refine lv_iload_n hx hb dX2_ask_24 rfl (lv_at hl 0 rfl) ?_
      refine va_iald hx hb hK hP 6 1 rfl rfl (rg_in (n := 20) (rg_mono h_920 (by decide) (by decide))) dX2_ask_25 ?_
      refine lv_topi (fun x_927 ex_927 => ?_)
      refine lv_iconst (v := (-1)) hx hb dX2_ask_26 (by decide) ?_
      refine lv_icmp_eq (tgt := 40) hx hb dX2_ask_27 (by decide) (fun c_928 => ?_) (fun c_928 => ?_)
      · skip
        have h_929 : rg (-1) (-1) x_927 := by have ha := (rg_any x_927); have hb_ := (rg_k (x := (-1)) (c := -1) (by decide)); simp only [rg, fa_lt, fa_le, fa_eq, (by decide : ((-1) : Int32).toInt = -1)] at ha hb_ c_928; simp only [rg]; omega
        refine lv_iconst (v := 1) hx hb dX2_ask_40 (by decide) ?_
        refine lv_goto (tgt := 45) hx hb dX2_ask_41 (by decide) ?_
        refine lv_istore (lv' := [(4, .int 1), (3, .int x_860), (0, .ref h0), (1, .ref h7), (2, .int p1)]) hx hb dX2_ask_45 hl (by decide) rfl (fun ls hl => ?_)
        refine lv_iload hx hb dX2_ask_47 (lv_at hl 0 rfl) ?_
        refine lv_if_eq (tgt := 86) hx hb dX2_ask_49 (by decide) (fun cz => absurd cz (by decide)) (fun _ => ?_)
        refine lv_aload_n hx hb dX2_ask_52 rfl (lv_at hl 2 rfl) ?_
        refine va_get (D := (dC, dI)) (ci := 2) (v := .ref h3) (C := RX2) (T := TX2) (N := 8) hx hb hts hinX2 hown hK hP 0 rfl rfl 2 (by decide) (hts (.fieldLink RX2 18 "MayRings$Letters" "ofPlace" "[Z") (List.mem_of_getElem? (i := 4) rfl)) (fun _ h9 => h9) rfl dX2_ask_53 ?_
        refine lv_iload_n hx hb dX2_ask_56 rfl (lv_at hl 1 rfl) ?_
        refine va_zald hx hb hK hP 3 3 rfl rfl (rg_in (n := 20) (rg_mono h_920 (by decide) (by decide))) dX2_ask_57 ?_
        refine lv_topi (fun x_930 ex_930 => ?_)
        have hx_930 : rg (0) (1) x_930 := by rw [ex_930]; exact rg_mono (hg2 _) (by decide) (by decide)
        refine lv_if_eq (tgt := 86) hx hb dX2_ask_58 (by decide) (fun c_931 => ?_) (fun c_931 => ?_)
        · skip
          have h_932 : rg (0) (0) x_930 := by have ha := hx_930; have hb_ := (rg_k (x := 0) (c := 0) (by decide)); simp only [rg, fa_lt, fa_le, fa_eq, (by decide : (0 : Int32).toInt = 0)] at ha hb_ c_931; simp only [rg]; omega
          refine lv_iload hx hb dX2_ask_86 (lv_at hl 0 rfl) ?_
          refine lv_if_eq (tgt := 113) hx hb dX2_ask_88 (by decide) (fun cz => absurd cz (by decide)) (fun _ => ?_)
          refine lv_aload_n hx hb dX2_ask_91 rfl (lv_at hl 3 rfl) ?_
          refine lv_aload_n hx hb dX2_ask_92 rfl (lv_at hl 2 rfl) ?_
          refine va_get (D := (dC, dI)) (ci := 2) (v := .ref h1) (C := RX2) (T := TX2) (N := 8) hx hb hts hinX2 hown hK hP 0 rfl rfl 0 (by decide) (hts (.fieldLink RX2 11 "MayRings$Letters" "house" "[I") (List.mem_of_getElem? (i := 5) rfl)) (fun _ h9 => h9) rfl dX2_ask_93 ?_
          refine lv_iload_n hx hb dX2_ask_96 rfl (lv_at hl 1 rfl) ?_
          refine va_iald hx hb hK hP 1 1 rfl rfl (rg_in (n := 20) (rg_mono h_920 (by decide) (by decide))) dX2_ask_97 ?_
          refine lv_topi (fun x_933 ex_933 => ?_)
          have hx_933 : rg (0) (8) x_933 := by rw [ex_933]; exact rg_mono (hg0 _) (by decide) (by decide)
          refine lv_aload_n hx hb dX2_ask_98 rfl (lv_at hl 2 rfl) ?_
          refine va_get (D := (dC, dI)) (ci := 2) (v := .ref h2) (C := RX2) (T := TX2) (N := 8) hx hb hts hinX2 hown hK hP 0 rfl rfl 1 (by decide) (hts (.fieldLink RX2 15 "MayRings$Letters" "where" "[I") (List.mem_of_getElem? (i := 6) rfl)) (fun _ h9 => h9) rfl dX2_ask_99 ?_
          refine lv_iload_n hx hb dX2_ask_102 rfl (lv_at hl 1 rfl) ?_
          refine va_iald hx hb hK hP 2 1 rfl rfl (rg_in (n := 20) (rg_mono h_920 (by decide) (by decide))) dX2_ask_103 ?_
          refine lv_topi (fun x_934 ex_934 => ?_)
          have hx_934 : rg (0) (8) x_934 := by rw [ex_934]; exact rg_mono (hg1 _) (by decide) (by decide)
          refine lv_aload_n hx hb dX2_ask_104 rfl (lv_at hl 2 rfl) ?_
          refine va_get (D := (dC, dI)) (ci := 2) (v := .ref h4) (C := RX2) (T := TX2) (N := 8) hx hb hts hinX2 hown hK hP 0 rfl rfl 3 (by decide) (hts (.fieldLink RX2 22 "MayRings$Letters" "isSo" "[Z") (List.mem_of_getElem? (i := 7) rfl)) (fun _ h9 => h9) rfl dX2_ask_105 ?_
          refine lv_iload_n hx hb dX2_ask_108 rfl (lv_at hl 1 rfl) ?_
          refine va_zald hx hb hK hP 4 3 rfl rfl (rg_in (n := 20) (rg_mono h_920 (by decide) (by decide))) dX2_ask_109 ?_
          refine lv_topi (fun x_935 ex_935 => ?_)
          have hx_935 : rg (0) (1) x_935 := by rw [ex_935]; exact rg_mono (hg3 _) (by decide) (by decide)
          have hPc := hP.sub (ws' := [(h7, .inr (7, [.ref h8, .ref h9, .ref h10, .ref h11, .ref h12, .ref h13, .int a2, .int a3, .int a4, .int a5, .int x_863, .int a7, .int a8, .int a9])), (h9, .inl (cI, 9, .inl f_861)), (h10, .inl (cI, 9, .inl f_862))]) [7, 9, 10] rfl
          have hDc := hD.sub (ws' := [(h7, .inr (7, [.ref h8, .ref h9, .ref h10, .ref h11, .ref h12, .ref h13, .int a2, .int a3, .int a4, .int a5, .int x_863, .int a7, .int a8, .int a9])), (h9, .inl (cI, 9, .inl f_861)), (h10, .inl (cI, 9, .inl f_862))]) [7, 9, 10] (by decide) rfl
          have hFc := va_free (wc := [(h7, .inr (7, [.ref h8, .ref h9, .ref h10, .ref h11, .ref h12, .ref h13, .int a2, .int a3, .int a4, .int a5, .int x_863, .int a7, .int a8, .int a9])), (h9, .inl (cI, 9, .inl f_861)), (h10, .inl (cI, 9, .inl f_862))]) hD hS hA [7, 9, 10] rfl
          refine va_callv (va_runV (As := [.int x_933, .int x_934, .int x_935]) (rest := []) ⟨hx, hb, hml, hown, hts⟩ (c_s_X7_heedPair l dC dI cB cI cJ cZ cP h7 h8 h9 f_861 hf_861 h10 f_862 hf_862 h11 h12 h13 a2 (rg_mono ha2 (by decide) (by decide)) a3 a4 a5 x_863 (rg_mono hx_863 (by decide) (by decide)) a7 a8 a9 x_933 (rg_mono hx_933 (by decide) (by decide)) x_934 (rg_mono hx_934 (by decide) (by decide)) x_935 (rg_mono hx_935 (by decide) (by decide)) H.size) (cwV 3 hts (gd_V (List.mem_of_getElem? (i := 8) rfl) (List.mem_of_getElem? (i := 9) rfl) (List.mem_of_getElem? (i := 10) rfl) (List.mem_of_getElem? (i := 11) rfl) (gd_mono k_s_X7_heedPair (fun _ h => List.mem_cons_of_mem _ (List.mem_append_right _ (List.mem_append_right _ (List.mem_append_left _ h)))))) rfl rfl rfl (by decide +kernel) ⟨Nat.le_of_ble_eq_true rfl, Nat.le_of_ble_eq_true rfl⟩) ⟨fun a U g mk q => by obtain ⟨q0, q1, qP, qK, qD⟩ := q; exact ⟨q0, q1, qP, va_K.moved (u := U) (U := U.calling g mk a) (Vm.Alike.refl U.vm) qK, qD⟩, va_recv hK hPc (ci := 7) (q0 := 0) rfl rfl, fun U hU hW => ⟨rfl, by rw [hU], by rw [hU]; exact hPc, va_K.moved hW.alike hK, hDc.weaken (fun _ _ _ _ => trivial)⟩⟩ rfl rfl hl.1 rfl (lv_room (Nat.le_of_ble_eq_true rfl)) dX2_ask_110 ⟨Nat.le_of_ble_eq_true rfl, Nat.le_of_ble_eq_true rfl⟩) hS (fun q _ h => hFc q h) hFc (fun u t H1 locs ht hvm hw hB hz1 hk1 hS => ?_)
          obtain ⟨x_937, f_938, f_939, hx_937, hf_938, hf_939, hP1, hD1⟩ := hB
          rw [ht] at hP1
          obtain ⟨hP, hD⟩ := va_join (wr := [(h0, .inr (2, [.ref h1, .ref h2, .ref h3, .ref h4, .ref h5, .ref h6, .int a0, .int a1])), (h1, .inl (cI, 20, .inl g0)), (h2, .inl (cI, 20, .inl g1)), (h3, .inl (cZ, 20, .inl g2)), (h4, .inl (cZ, 20, .inl g3)), (h5, .inl (cI, 20, .inl g4)), (h6, .inl (cI, 20, .inl g5)), (h8, .inl (cI, 9, .inl f_864))]) (w1 := [(h7, .inr (7, [.ref h8, .ref h9, .ref h10, .ref h11, .ref h12, .ref h13, .int a2, .int a3, .int a4, .int a5, .int x_937, .int a7, .int a8, .int a9])), (h9, .inl (cI, 9, .inl f_938)), (h10, .inl (cI, 9, .inl f_939))]) hP hD [7, 9, 10] [0, 1, 2, 3, 4, 5, 6, 8] rfl rfl (by decide) (by decide) hk1 hFc hP1 hD1
          generalize H1 = H at hP hS ⊢
          have hP : va_P (dC, dI) vwCl [(h0, .inr (2, [.ref h1, .ref h2, .ref h3, .ref h4, .ref h5, .ref h6, .int a0, .int a1])), (h1, .inl (cI, 20, .inl g0)), (h2, .inl (cI, 20, .inl g1)), (h3, .inl (cZ, 20, .inl g2)), (h4, .inl (cZ, 20, .inl g3)), (h5, .inl (cI, 20, .inl g4)), (h6, .inl (cI, 20, .inl g5)), (h8, .inl (cI, 9, .inl f_864)), (h7, .inr (7, [.ref h8, .ref h9, .ref h10, .ref h11, .ref h12, .ref h13, .int a2, .int a3, .int a4, .int a5, .int x_937, .int a7, .int a8, .int a9])), (h9, .inl (cI, 9, .inl f_938)), (h10, .inl (cI, 9, .inl f_939))] H := hP
          have hD : va_D A [(h0, .inr (2, [.ref h1, .ref h2, .ref h3, .ref h4, .ref h5, .ref h6, .int a0, .int a1])), (h1, .inl (cI, 20, .inl g0)), (h2, .inl (cI, 20, .inl g1)), (h3, .inl (cZ, 20, .inl g2)), (h4, .inl (cZ, 20, .inl g3)), (h5, .inl (cI, 20, .inl g4)), (h6, .inl (cI, 20, .inl g5)), (h8, .inl (cI, 9, .inl f_864)), (h7, .inr (7, [.ref h8, .ref h9, .ref h10, .ref h11, .ref h12, .ref h13, .int a2, .int a3, .int a4, .int a5, .int x_937, .int a7, .int a8, .int a9])), (h9, .inl (cI, 9, .inl f_938)), (h10, .inl (cI, 9, .inl f_939))] := hD
          obtain ⟨x_940, ex_940⟩ : ∃ y : Int32, y = x_860 + Int32.ofInt (1) := ⟨_, rfl⟩
          have hx_940 : rg (1) (20) x_940 := by rw [ex_940]; exact rg_mono (rg_add h_920 (rg_k (x := Int32.ofInt (1)) (c := 1) (by decide)) (by decide) (by decide)) (by decide) (by decide)
          have qx_940 : x_940.toInt = x_860.toInt + (1) := by rw [ex_940]; exact rg_addE h_920 (rg_k (x := Int32.ofInt (1)) (c := 1) (by decide)) (by decide) (by decide) (by decide)
          refine lv_iinc (v := x_940) (lv' := [(3, .int x_940), (4, .int 1), (0, .ref h0), (1, .ref h7), (2, .int p1)]) hx hb dX2_ask_113 hl (k := 1) rfl (ex_940.symm) (by decide) rfl (fun ls hl => ?_)
          clear ex_940
          refine lv_goto (tgt := 2) hx hb dX2_ask_116 (by decide) ?_
          exact ih_918 (x_940, f_938, f_939, x_937, f_864) H locs ls ⟨hP.sub (ws' := [(h0, .inr (2, [.ref h1, .ref h2, .ref h3, .ref h4, .ref h5, .ref h6, .int a0, .int a1])), (h1, .inl (cI, 20, .inl g0)), (h2, .inl (cI, 20, .inl g1)), (h3, .inl (cZ, 20, .inl g2)), (h4, .inl (cZ, 20, .inl g3)), (h5, .inl (cI, 20, .inl g4)), (h6, .inl (cI, 20, .inl g5)), (h7, .inr (7, [.ref h8, .ref h9, .ref h10, .ref h11, .ref h12, .ref h13, .int a2, .int a3, .int a4, .int a5, .int x_937, .int a7, .int a8, .int a9])), (h8, .inl (cI, 9, .inl f_864)), (h9, .inl (cI, 9, .inl f_938)), (h10, .inl (cI, 9, .inl f_939))]) [0, 1, 2, 3, 4, 5, 6, 8, 7, 9, 10] rfl, hD.sub (ws' := [(h0, .inr (2, [.ref h1, .ref h2, .ref h3, .ref h4, .ref h5, .ref h6, .int a0, .int a1])), (h1, .inl (cI, 20, .inl g0)), (h2, .inl (cI, 20, .inl g1)), (h3, .inl (cZ, 20, .inl g2)), (h4, .inl (cZ, 20, .inl g3)), (h5, .inl (cI, 20, .inl g4)), (h6, .inl (cI, 20, .inl g5)), (h7, .inr (7, [.ref h8, .ref h9, .ref h10, .ref h11, .ref h12, .ref h13, .int a2, .int a3, .int a4, .int a5, .int x_937, .int a7, .int a8, .int a9])), (h8, .inl (cI, 9, .inl f_864)), (h9, .inl (cI, 9, .inl f_938)), (h10, .inl (cI, 9, .inl f_939))]) [0, 1, 2, 3, 4, 5, 6, 8, 7, 9, 10] (by decide) rfl, hS, lv_sub hl [0, 2, 3, 4] rfl, (rg_mono hx_940 (by decide) (by decide)), hf_938, hf_939, (rg_mono hx_937 (by decide) (by decide)), hf_864⟩ (by show ((20) - x_940.toInt).toNat < ((20) - x_860.toInt).toNat; have ha := h_920; simp only [rg] at ha; omega)
        · skip
          have h_941 : rg (1) (1) x_930 := by have ha := hx_930; have hb_ := (rg_k (x := 0) (c := 0) (by decide)); simp only [rg, fa_lt, fa_le, fa_eq, (by decide : (0 : Int32).toInt = 0)] at ha hb_ c_931; simp only [rg]; omega
          refine lv_aload_n hx hb dX2_ask_61 rfl (lv_at hl 3 rfl) ?_
          refine lv_aload_n hx hb dX2_ask_62 rfl (lv_at hl 2 rfl) ?_
          refine va_get (D := (dC, dI)) (ci := 2) (v := .ref h1) (C := RX2) (T := TX2) (N := 8) hx hb hts hinX2 hown hK hP 0 rfl rfl 0 (by decide) (hts (.fieldLink RX2 11 "MayRings$Letters" "house" "[I") (List.mem_of_getElem? (i := 5) rfl)) (fun _ h9 => h9) rfl dX2_ask_63 ?_
          refine lv_iload_n hx hb dX2_ask_66 rfl (lv_at hl 1 rfl) ?_
          refine va_iald hx hb hK hP 1 1 rfl rfl (rg_in (n := 20) (rg_mono h_920 (by decide) (by decide))) dX2_ask_67 ?_
          refine lv_topi (fun x_942 ex_942 => ?_)
          have hx_942 : rg (0) (8) x_942 := by rw [ex_942]; exact rg_mono (hg0 _) (by decide) (by decide)
          refine lv_aload_n hx hb dX2_ask_68 rfl (lv_at hl 2 rfl) ?_
          refine va_get (D := (dC, dI)) (ci := 2) (v := .ref h2) (C := RX2) (T := TX2) (N := 8) hx hb hts hinX2 hown hK hP 0 rfl rfl 1 (by decide) (hts (.fieldLink RX2 15 "MayRings$Letters" "where" "[I") (List.mem_of_getElem? (i := 6) rfl)) (fun _ h9 => h9) rfl dX2_ask_69 ?_
          refine lv_iload_n hx hb dX2_ask_72 rfl (lv_at hl 1 rfl) ?_
          refine va_iald hx hb hK hP 2 1 rfl rfl (rg_in (n := 20) (rg_mono h_920 (by decide) (by decide))) dX2_ask_73 ?_
          refine lv_topi (fun x_943 ex_943 => ?_)
          have hx_943 : rg (0) (8) x_943 := by rw [ex_943]; exact rg_mono (hg1 _) (by decide) (by decide)
          refine lv_aload_n hx hb dX2_ask_74 rfl (lv_at hl 2 rfl) ?_
          refine va_get (D := (dC, dI)) (ci := 2) (v := .ref h4) (C := RX2) (T := TX2) (N := 8) hx hb hts hinX2 hown hK hP 0 rfl rfl 3 (by decide) (hts (.fieldLink RX2 22 "MayRings$Letters" "isSo" "[Z") (List.mem_of_getElem? (i := 7) rfl)) (fun _ h9 => h9) rfl dX2_ask_75 ?_
          refine lv_iload_n hx hb dX2_ask_78 rfl (lv_at hl 1 rfl) ?_
          refine va_zald hx hb hK hP 4 3 rfl rfl (rg_in (n := 20) (rg_mono h_920 (by decide) (by decide))) dX2_ask_79 ?_
          refine lv_topi (fun x_944 ex_944 => ?_)
          have hx_944 : rg (0) (1) x_944 := by rw [ex_944]; exact rg_mono (hg3 _) (by decide) (by decide)
          have hPc := hP.sub (ws' := [(h7, .inr (7, [.ref h8, .ref h9, .ref h10, .ref h11, .ref h12, .ref h13, .int a2, .int a3, .int a4, .int a5, .int x_863, .int a7, .int a8, .int a9])), (h8, .inl (cI, 9, .inl f_864))]) [7, 8] rfl
          have hDc := hD.sub (ws' := [(h7, .inr (7, [.ref h8, .ref h9, .ref h10, .ref h11, .ref h12, .ref h13, .int a2, .int a3, .int a4, .int a5, .int x_863, .int a7, .int a8, .int a9])), (h8, .inl (cI, 9, .inl f_864))]) [7, 8] (by decide) rfl
          have hFc := va_free (wc := [(h7, .inr (7, [.ref h8, .ref h9, .ref h10, .ref h11, .ref h12, .ref h13, .int a2, .int a3, .int a4, .int a5, .int x_863, .int a7, .int a8, .int a9])), (h8, .inl (cI, 9, .inl f_864))]) hD hS hA [7, 8] rfl
          refine va_callv (va_runV (As := [.int x_942, .int x_943, .int x_944]) (rest := []) ⟨hx, hb, hml, hown, hts⟩ (c_s_X7_heedPlace l dC dI cB cI cJ cZ cP h7 h8 f_864 hf_864 h9 h10 h11 h12 h13 a2 (rg_mono ha2 (by decide) (by decide)) a3 (rg_mono ha3 (by decide) (by decide)) a4 a5 x_863 (rg_mono hx_863 (by decide) (by decide)) a7 a8 a9 x_942 (rg_mono hx_942 (by decide) (by decide)) x_943 (rg_mono hx_943 (by decide) (by decide)) x_944 (rg_mono hx_944 (by decide) (by decide)) H.size) (cwV 3 hts (gd_V (List.mem_of_getElem? (i := 12) rfl) (List.mem_of_getElem? (i := 13) rfl) (List.mem_of_getElem? (i := 14) rfl) (List.mem_of_getElem? (i := 11) rfl) (gd_mono k_s_X7_heedPlace (fun _ h => List.mem_cons_of_mem _ (List.mem_append_right _ (List.mem_append_right _ (List.mem_append_right _ (List.mem_append_left _ h))))))) rfl rfl rfl (by decide +kernel) ⟨Nat.le_of_ble_eq_true rfl, Nat.le_of_ble_eq_true rfl⟩) ⟨fun a U g mk q => by obtain ⟨q0, q1, qP, qK, qD⟩ := q; exact ⟨q0, q1, qP, va_K.moved (u := U) (U := U.calling g mk a) (Vm.Alike.refl U.vm) qK, qD⟩, va_recv hK hPc (ci := 7) (q0 := 0) rfl rfl, fun U hU hW => ⟨rfl, by rw [hU], by rw [hU]; exact hPc, va_K.moved hW.alike hK, hDc.weaken (fun _ _ _ _ => trivial)⟩⟩ rfl rfl hl.1 rfl (lv_room (Nat.le_of_ble_eq_true rfl)) dX2_ask_80 ⟨Nat.le_of_ble_eq_true rfl, Nat.le_of_ble_eq_true rfl⟩) hS (fun q _ h => hFc q h) hFc (fun u t H1 locs ht hvm hw hB hz1 hk1 hS => ?_)
          obtain ⟨x_946, f_947, hx_946, hf_947, hP1, hD1⟩ := hB
          rw [ht] at hP1
          obtain ⟨hP, hD⟩ := va_join (wr := [(h0, .inr (2, [.ref h1, .ref h2, .ref h3, .ref h4, .ref h5, .ref h6, .int a0, .int a1])), (h1, .inl (cI, 20, .inl g0)), (h2, .inl (cI, 20, .inl g1)), (h3, .inl (cZ, 20, .inl g2)), (h4, .inl (cZ, 20, .inl g3)), (h5, .inl (cI, 20, .inl g4)), (h6, .inl (cI, 20, .inl g5)), (h9, .inl (cI, 9, .inl f_861)), (h10, .inl (cI, 9, .inl f_862))]) (w1 := [(h7, .inr (7, [.ref h8, .ref h9, .ref h10, .ref h11, .ref h12, .ref h13, .int a2, .int a3, .int a4, .int a5, .int x_946, .int a7, .int a8, .int a9])), (h8, .inl (cI, 9, .inl f_947))]) hP hD [7, 8] [0, 1, 2, 3, 4, 5, 6, 9, 10] rfl rfl (by decide) (by decide) hk1 hFc hP1 hD1
          generalize H1 = H at hP hS ⊢
          have hP : va_P (dC, dI) vwCl [(h0, .inr (2, [.ref h1, .ref h2, .ref h3, .ref h4, .ref h5, .ref h6, .int a0, .int a1])), (h1, .inl (cI, 20, .inl g0)), (h2, .inl (cI, 20, .inl g1)), (h3, .inl (cZ, 20, .inl g2)), (h4, .inl (cZ, 20, .inl g3)), (h5, .inl (cI, 20, .inl g4)), (h6, .inl (cI, 20, .inl g5)), (h9, .inl (cI, 9, .inl f_861)), (h10, .inl (cI, 9, .inl f_862)), (h7, .inr (7, [.ref h8, .ref h9, .ref h10, .ref h11, .ref h12, .ref h13, .int a2, .int a3, .int a4, .int a5, .int x_946, .int a7, .int a8, .int a9])), (h8, .inl (cI, 9, .inl f_947))] H := hP
          have hD : va_D A [(h0, .inr (2, [.ref h1, .ref h2, .ref h3, .ref h4, .ref h5, .ref h6, .int a0, .int a1])), (h1, .inl (cI, 20, .inl g0)), (h2, .inl (cI, 20, .inl g1)), (h3, .inl (cZ, 20, .inl g2)), (h4, .inl (cZ, 20, .inl g3)), (h5, .inl (cI, 20, .inl g4)), (h6, .inl (cI, 20, .inl g5)), (h9, .inl (cI, 9, .inl f_861)), (h10, .inl (cI, 9, .inl f_862)), (h7, .inr (7, [.ref h8, .ref h9, .ref h10, .ref h11, .ref h12, .ref h13, .int a2, .int a3, .int a4, .int a5, .int x_946, .int a7, .int a8, .int a9])), (h8, .inl (cI, 9, .inl f_947))] := hD
          refine lv_goto (tgt := 113) hx hb dX2_ask_83 (by decide) ?_
          obtain ⟨x_948, ex_948⟩ : ∃ y : Int32, y = x_860 + Int32.ofInt (1) := ⟨_, rfl⟩
          have hx_948 : rg (1) (20) x_948 := by rw [ex_948]; exact rg_mono (rg_add h_920 (rg_k (x := Int32.ofInt (1)) (c := 1) (by decide)) (by decide) (by decide)) (by decide) (by decide)
          have qx_948 : x_948.toInt = x_860.toInt + (1) := by rw [ex_948]; exact rg_addE h_920 (rg_k (x := Int32.ofInt (1)) (c := 1) (by decide)) (by decide) (by decide) (by decide)
          refine lv_iinc (v := x_948) (lv' := [(3, .int x_948), (4, .int 1), (0, .ref h0), (1, .ref h7), (2, .int p1)]) hx hb dX2_ask_113 hl (k := 1) rfl (ex_948.symm) (by decide) rfl (fun ls hl => ?_)
          clear ex_948
          refine lv_goto (tgt := 2) hx hb dX2_ask_116 (by decide) ?_
          exact ih_918 (x_948, f_861, f_862, x_946, f_947) H locs ls ⟨hP.sub (ws' := [(h0, .inr (2, [.ref h1, .ref h2, .ref h3, .ref h4, .ref h5, .ref h6, .int a0, .int a1])), (h1, .inl (cI, 20, .inl g0)), (h2, .inl (cI, 20, .inl g1)), (h3, .inl (cZ, 20, .inl g2)), (h4, .inl (cZ, 20, .inl g3)), (h5, .inl (cI, 20, .inl g4)), (h6, .inl (cI, 20, .inl g5)), (h7, .inr (7, [.ref h8, .ref h9, .ref h10, .ref h11, .ref h12, .ref h13, .int a2, .int a3, .int a4, .int a5, .int x_946, .int a7, .int a8, .int a9])), (h8, .inl (cI, 9, .inl f_947)), (h9, .inl (cI, 9, .inl f_861)), (h10, .inl (cI, 9, .inl f_862))]) [0, 1, 2, 3, 4, 5, 6, 9, 10, 7, 8] rfl, hD.sub (ws' := [(h0, .inr (2, [.ref h1, .ref h2, .ref h3, .ref h4, .ref h5, .ref h6, .int a0, .int a1])), (h1, .inl (cI, 20, .inl g0)), (h2, .inl (cI, 20, .inl g1)), (h3, .inl (cZ, 20, .inl g2)), (h4, .inl (cZ, 20, .inl g3)), (h5, .inl (cI, 20, .inl g4)), (h6, .inl (cI, 20, .inl g5)), (h7, .inr (7, [.ref h8, .ref h9, .ref h10, .ref h11, .ref h12, .ref h13, .int a2, .int a3, .int a4, .int a5, .int x_946, .int a7, .int a8, .int a9])), (h8, .inl (cI, 9, .inl f_947)), (h9, .inl (cI, 9, .inl f_861)), (h10, .inl (cI, 9, .inl f_862))]) [0, 1, 2, 3, 4, 5, 6, 9, 10, 7, 8] (by decide) rfl, hS, lv_sub hl [0, 2, 3, 4] rfl, (rg_mono hx_948 (by decide) (by decide)), hf_861, hf_862, (rg_mono hx_946 (by decide) (by decide)), hf_947⟩ (by show ((20) - x_948.toInt).toNat < ((20) - x_860.toInt).toNat; have ha := h_920; simp only [rg] at ha; omega)
      · skip
        refine lv_aload_n hx hb dX2_ask_30 rfl (lv_at hl 1 rfl) ?_
        refine va_get (D := (dC, dI)) (ci := 2) (v := .ref h6) (C := RX2) (T := TX2) (N := 8) hx hb hts hinX2 hown hK hP 0 rfl rfl 5 (by decide) (hts (.fieldLink RX2 28 "MayRings$Letters" "untoldAt" "[I") (List.mem_of_getElem? (i := 3) rfl)) (fun _ h9 => h9) rfl dX2_ask_31 ?_
        refine lv_iload_n hx hb dX2_ask_34 rfl (lv_at hl 0 rfl) ?_
        refine va_iald hx hb hK hP 6 1 rfl rfl (rg_in (n := 20) (rg_mono h_920 (by decide) (by decide))) dX2_ask_35 ?_
        refine tp_v (.int x_927) (congrArg Value.int (ex_927.symm)) ?_
        refine lv_iload_n hx hb dX2_ask_36 rfl (lv_at hl 3 rfl) ?_
        refine lv_icmp_le (tgt := 44) hx hb dX2_ask_37 (by decide) (fun c_949 => ?_) (fun c_949 => ?_)
        · skip
          refine lv_iconst (v := 0) hx hb dX2_ask_44 (by decide) ?_
          refine lv_istore (lv' := [(4, .int 0), (3, .int x_860), (0, .ref h0), (1, .ref h7), (2, .int p1)]) hx hb dX2_ask_45 hl (by decide) rfl (fun ls hl => ?_)
          refine lv_iload hx hb dX2_ask_47 (lv_at hl 0 rfl) ?_
          refine lv_if_eq (tgt := 86) hx hb dX2_ask_49 (by decide) (fun _ => ?_) (fun cz => absurd (by decide) cz)
          refine lv_iload hx hb dX2_ask_86 (lv_at hl 0 rfl) ?_
          refine lv_if_eq (tgt := 113) hx hb dX2_ask_88 (by decide) (fun _ => ?_) (fun cz => absurd (by decide) cz)
          obtain ⟨x_950, ex_950⟩ : ∃ y : Int32, y = x_860 + Int32.ofInt (1) := ⟨_, rfl⟩
          have hx_950 : rg (1) (20) x_950 := by rw [ex_950]; exact rg_mono (rg_add h_920 (rg_k (x := Int32.ofInt (1)) (c := 1) (by decide)) (by decide) (by decide)) (by decide) (by decide)
          have qx_950 : x_950.toInt = x_860.toInt + (1) := by rw [ex_950]; exact rg_addE h_920 (rg_k (x := Int32.ofInt (1)) (c := 1) (by decide)) (by decide) (by decide) (by decide)
          refine lv_iinc (v := x_950) (lv' := [(3, .int x_950), (4, .int 0), (0, .ref h0), (1, .ref h7), (2, .int p1)]) hx hb dX2_ask_113 hl (k := 1) rfl (ex_950.symm) (by decide) rfl (fun ls hl => ?_)
          clear ex_950
          refine lv_goto (tgt := 2) hx hb dX2_ask_116 (by decide) ?_
          exact ih_918 (x_950, f_861, f_862, x_863, f_864) H locs ls ⟨hP.sub (ws' := [(h0, .inr (2, [.ref h1, .ref h2, .ref h3, .ref h4, .ref h5, .ref h6, .int a0, .int a1])), (h1, .inl (cI, 20, .inl g0)), (h2, .inl (cI, 20, .inl g1)), (h3, .inl (cZ, 20, .inl g2)), (h4, .inl (cZ, 20, .inl g3)), (h5, .inl (cI, 20, .inl g4)), (h6, .inl (cI, 20, .inl g5)), (h7, .inr (7, [.ref h8, .ref h9, .ref h10, .ref h11, .ref h12, .ref h13, .int a2, .int a3, .int a4, .int a5, .int x_863, .int a7, .int a8, .int a9])), (h8, .inl (cI, 9, .inl f_864)), (h9, .inl (cI, 9, .inl f_861)), (h10, .inl (cI, 9, .inl f_862))]) [0, 1, 2, 3, 4, 5, 6, 7, 8, 9, 10] rfl, hD.sub (ws' := [(h0, .inr (2, [.ref h1, .ref h2, .ref h3, .ref h4, .ref h5, .ref h6, .int a0, .int a1])), (h1, .inl (cI, 20, .inl g0)), (h2, .inl (cI, 20, .inl g1)), (h3, .inl (cZ, 20, .inl g2)), (h4, .inl (cZ, 20, .inl g3)), (h5, .inl (cI, 20, .inl g4)), (h6, .inl (cI, 20, .inl g5)), (h7, .inr (7, [.ref h8, .ref h9, .ref h10, .ref h11, .ref h12, .ref h13, .int a2, .int a3, .int a4, .int a5, .int x_863, .int a7, .int a8, .int a9])), (h8, .inl (cI, 9, .inl f_864)), (h9, .inl (cI, 9, .inl f_861)), (h10, .inl (cI, 9, .inl f_862))]) [0, 1, 2, 3, 4, 5, 6, 7, 8, 9, 10] (by decide) rfl, hS, lv_sub hl [0, 2, 3, 4] rfl, (rg_mono hx_950 (by decide) (by decide)), hf_861, hf_862, (rg_mono hx_863 (by decide) (by decide)), hf_864⟩ (by show ((20) - x_950.toInt).toNat < ((20) - x_860.toInt).toNat; have ha := h_920; simp only [rg] at ha; omega)
        · skip
          have h_951 : rg (-2147483647) (2147483647) x_927 := by have ha := (rg_any x_927); have hb_ := (rg_any p1); simp only [rg, fa_lt, fa_le, fa_eq] at ha hb_ c_949; simp only [rg]; omega
          have h_952 : rg (-2147483648) (2147483646) p1 := by have ha := (rg_any x_927); have hb_ := (rg_any p1); simp only [rg, fa_lt, fa_le, fa_eq] at ha hb_ c_949; simp only [rg]; omega
          refine lv_iconst (v := 1) hx hb dX2_ask_40 (by decide) ?_
          refine lv_goto (tgt := 45) hx hb dX2_ask_41 (by decide) ?_
          refine lv_istore (lv' := [(4, .int 1), (3, .int x_860), (0, .ref h0), (1, .ref h7), (2, .int p1)]) hx hb dX2_ask_45 hl (by decide) rfl (fun ls hl => ?_)
          refine lv_iload hx hb dX2_ask_47 (lv_at hl 0 rfl) ?_
          refine lv_if_eq (tgt := 86) hx hb dX2_ask_49 (by decide) (fun cz => absurd cz (by decide)) (fun _ => ?_)
          refine lv_aload_n hx hb dX2_ask_52 rfl (lv_at hl 2 rfl) ?_
          refine va_get (D := (dC, dI)) (ci := 2) (v := .ref h3) (C := RX2) (T := TX2) (N := 8) hx hb hts hinX2 hown hK hP 0 rfl rfl 2 (by decide) (hts (.fieldLink RX2 18 "MayRings$Letters" "ofPlace" "[Z") (List.mem_of_getElem? (i := 4) rfl)) (fun _ h9 => h9) rfl dX2_ask_53 ?_
          refine lv_iload_n hx hb dX2_ask_56 rfl (lv_at hl 1 rfl) ?_
          refine va_zald hx hb hK hP 3 3 rfl rfl (rg_in (n := 20) (rg_mono h_920 (by decide) (by decide))) dX2_ask_57 ?_
          refine lv_topi (fun x_953 ex_953 => ?_)
          have hx_953 : rg (0) (1) x_953 := by rw [ex_953]; exact rg_mono (hg2 _) (by decide) (by decide)
          refine lv_if_eq (tgt := 86) hx hb dX2_ask_58 (by decide) (fun c_954 => ?_) (fun c_954 => ?_)
          · skip
            have h_955 : rg (0) (0) x_953 := by have ha := hx_953; have hb_ := (rg_k (x := 0) (c := 0) (by decide)); simp only [rg, fa_lt, fa_le, fa_eq, (by decide : (0 : Int32).toInt = 0)] at ha hb_ c_954; simp only [rg]; omega
            refine lv_iload hx hb dX2_ask_86 (lv_at hl 0 rfl) ?_
            refine lv_if_eq (tgt := 113) hx hb dX2_ask_88 (by decide) (fun cz => absurd cz (by decide)) (fun _ => ?_)
            refine lv_aload_n hx hb dX2_ask_91 rfl (lv_at hl 3 rfl) ?_
            refine lv_aload_n hx hb dX2_ask_92 rfl (lv_at hl 2 rfl) ?_
            refine va_get (D := (dC, dI)) (ci := 2) (v := .ref h1) (C := RX2) (T := TX2) (N := 8) hx hb hts hinX2 hown hK hP 0 rfl rfl 0 (by decide) (hts (.fieldLink RX2 11 "MayRings$Letters" "house" "[I") (List.mem_of_getElem? (i := 5) rfl)) (fun _ h9 => h9) rfl dX2_ask_93 ?_
            refine lv_iload_n hx hb dX2_ask_96 rfl (lv_at hl 1 rfl) ?_
            refine va_iald hx hb hK hP 1 1 rfl rfl (rg_in (n := 20) (rg_mono h_920 (by decide) (by decide))) dX2_ask_97 ?_
            refine lv_topi (fun x_956 ex_956 => ?_)
            have hx_956 : rg (0) (8) x_956 := by rw [ex_956]; exact rg_mono (hg0 _) (by decide) (by decide)
            refine lv_aload_n hx hb dX2_ask_98 rfl (lv_at hl 2 rfl) ?_
            refine va_get (D := (dC, dI)) (ci := 2) (v := .ref h2) (C := RX2) (T := TX2) (N := 8) hx hb hts hinX2 hown hK hP 0 rfl rfl 1 (by decide) (hts (.fieldLink RX2 15 "MayRings$Letters" "where" "[I") (List.mem_of_getElem? (i := 6) rfl)) (fun _ h9 => h9) rfl dX2_ask_99 ?_
            refine lv_iload_n hx hb dX2_ask_102 rfl (lv_at hl 1 rfl) ?_
            refine va_iald hx hb hK hP 2 1 rfl rfl (rg_in (n := 20) (rg_mono h_920 (by decide) (by decide))) dX2_ask_103 ?_
            refine lv_topi (fun x_957 ex_957 => ?_)
            have hx_957 : rg (0) (8) x_957 := by rw [ex_957]; exact rg_mono (hg1 _) (by decide) (by decide)
            refine lv_aload_n hx hb dX2_ask_104 rfl (lv_at hl 2 rfl) ?_
            refine va_get (D := (dC, dI)) (ci := 2) (v := .ref h4) (C := RX2) (T := TX2) (N := 8) hx hb hts hinX2 hown hK hP 0 rfl rfl 3 (by decide) (hts (.fieldLink RX2 22 "MayRings$Letters" "isSo" "[Z") (List.mem_of_getElem? (i := 7) rfl)) (fun _ h9 => h9) rfl dX2_ask_105 ?_
            refine lv_iload_n hx hb dX2_ask_108 rfl (lv_at hl 1 rfl) ?_
            refine va_zald hx hb hK hP 4 3 rfl rfl (rg_in (n := 20) (rg_mono h_920 (by decide) (by decide))) dX2_ask_109 ?_
            refine lv_topi (fun x_958 ex_958 => ?_)
            have hx_958 : rg (0) (1) x_958 := by rw [ex_958]; exact rg_mono (hg3 _) (by decide) (by decide)
            have hPc := hP.sub (ws' := [(h7, .inr (7, [.ref h8, .ref h9, .ref h10, .ref h11, .ref h12, .ref h13, .int a2, .int a3, .int a4, .int a5, .int x_863, .int a7, .int a8, .int a9])), (h9, .inl (cI, 9, .inl f_861)), (h10, .inl (cI, 9, .inl f_862))]) [7, 9, 10] rfl
            have hDc := hD.sub (ws' := [(h7, .inr (7, [.ref h8, .ref h9, .ref h10, .ref h11, .ref h12, .ref h13, .int a2, .int a3, .int a4, .int a5, .int x_863, .int a7, .int a8, .int a9])), (h9, .inl (cI, 9, .inl f_861)), (h10, .inl (cI, 9, .inl f_862))]) [7, 9, 10] (by decide) rfl
            have hFc := va_free (wc := [(h7, .inr (7, [.ref h8, .ref h9, .ref h10, .ref h11, .ref h12, .ref h13, .int a2, .int a3, .int a4, .int a5, .int x_863, .int a7, .int a8, .int a9])), (h9, .inl (cI, 9, .inl f_861)), (h10, .inl (cI, 9, .inl f_862))]) hD hS hA [7, 9, 10] rfl
            refine va_callv (va_runV (As := [.int x_956, .int x_957, .int x_958]) (rest := []) ⟨hx, hb, hml, hown, hts⟩ (c_s_X7_heedPair l dC dI cB cI cJ cZ cP h7 h8 h9 f_861 hf_861 h10 f_862 hf_862 h11 h12 h13 a2 (rg_mono ha2 (by decide) (by decide)) a3 a4 a5 x_863 (rg_mono hx_863 (by decide) (by decide)) a7 a8 a9 x_956 (rg_mono hx_956 (by decide) (by decide)) x_957 (rg_mono hx_957 (by decide) (by decide)) x_958 (rg_mono hx_958 (by decide) (by decide)) H.size) (cwV 3 hts (gd_V (List.mem_of_getElem? (i := 8) rfl) (List.mem_of_getElem? (i := 9) rfl) (List.mem_of_getElem? (i := 10) rfl) (List.mem_of_getElem? (i := 11) rfl) (gd_mono k_s_X7_heedPair (fun _ h => List.mem_cons_of_mem _ (List.mem_append_right _ (List.mem_append_right _ (List.mem_append_left _ h)))))) rfl rfl rfl (by decide +kernel) ⟨Nat.le_of_ble_eq_true rfl, Nat.le_of_ble_eq_true rfl⟩) ⟨fun a U g mk q => by obtain ⟨q0, q1, qP, qK, qD⟩ := q; exact ⟨q0, q1, qP, va_K.moved (u := U) (U := U.calling g mk a) (Vm.Alike.refl U.vm) qK, qD⟩, va_recv hK hPc (ci := 7) (q0 := 0) rfl rfl, fun U hU hW => ⟨rfl, by rw [hU], by rw [hU]; exact hPc, va_K.moved hW.alike hK, hDc.weaken (fun _ _ _ _ => trivial)⟩⟩ rfl rfl hl.1 rfl (lv_room (Nat.le_of_ble_eq_true rfl)) dX2_ask_110 ⟨Nat.le_of_ble_eq_true rfl, Nat.le_of_ble_eq_true rfl⟩) hS (fun q _ h => hFc q h) hFc (fun u t H1 locs ht hvm hw hB hz1 hk1 hS => ?_)
            obtain ⟨x_960, f_961, f_962, hx_960, hf_961, hf_962, hP1, hD1⟩ := hB
            rw [ht] at hP1
            obtain ⟨hP, hD⟩ := va_join (wr := [(h0, .inr (2, [.ref h1, .ref h2, .ref h3, .ref h4, .ref h5, .ref h6, .int a0, .int a1])), (h1, .inl (cI, 20, .inl g0)), (h2, .inl (cI, 20, .inl g1)), (h3, .inl (cZ, 20, .inl g2)), (h4, .inl (cZ, 20, .inl g3)), (h5, .inl (cI, 20, .inl g4)), (h6, .inl (cI, 20, .inl g5)), (h8, .inl (cI, 9, .inl f_864))]) (w1 := [(h7, .inr (7, [.ref h8, .ref h9, .ref h10, .ref h11, .ref h12, .ref h13, .int a2, .int a3, .int a4, .int a5, .int x_960, .int a7, .int a8, .int a9])), (h9, .inl (cI, 9, .inl f_961)), (h10, .inl (cI, 9, .inl f_962))]) hP hD [7, 9, 10] [0, 1, 2, 3, 4, 5, 6, 8] rfl rfl (by decide) (by decide) hk1 hFc hP1 hD1
            generalize H1 = H at hP hS ⊢
            have hP : va_P (dC, dI) vwCl [(h0, .inr (2, [.ref h1, .ref h2, .ref h3, .ref h4, .ref h5, .ref h6, .int a0, .int a1])), (h1, .inl (cI, 20, .inl g0)), (h2, .inl (cI, 20, .inl g1)), (h3, .inl (cZ, 20, .inl g2)), (h4, .inl (cZ, 20, .inl g3)), (h5, .inl (cI, 20, .inl g4)), (h6, .inl (cI, 20, .inl g5)), (h8, .inl (cI, 9, .inl f_864)), (h7, .inr (7, [.ref h8, .ref h9, .ref h10, .ref h11, .ref h12, .ref h13, .int a2, .int a3, .int a4, .int a5, .int x_960, .int a7, .int a8, .int a9])), (h9, .inl (cI, 9, .inl f_961)), (h10, .inl (cI, 9, .inl f_962))] H := hP
            have hD : va_D A [(h0, .inr (2, [.ref h1, .ref h2, .ref h3, .ref h4, .ref h5, .ref h6, .int a0, .int a1])), (h1, .inl (cI, 20, .inl g0)), (h2, .inl (cI, 20, .inl g1)), (h3, .inl (cZ, 20, .inl g2)), (h4, .inl (cZ, 20, .inl g3)), (h5, .inl (cI, 20, .inl g4)), (h6, .inl (cI, 20, .inl g5)), (h8, .inl (cI, 9, .inl f_864)), (h7, .inr (7, [.ref h8, .ref h9, .ref h10, .ref h11, .ref h12, .ref h13, .int a2, .int a3, .int a4, .int a5, .int x_960, .int a7, .int a8, .int a9])), (h9, .inl (cI, 9, .inl f_961)), (h10, .inl (cI, 9, .inl f_962))] := hD
            obtain ⟨x_963, ex_963⟩ : ∃ y : Int32, y = x_860 + Int32.ofInt (1) := ⟨_, rfl⟩
            have hx_963 : rg (1) (20) x_963 := by rw [ex_963]; exact rg_mono (rg_add h_920 (rg_k (x := Int32.ofInt (1)) (c := 1) (by decide)) (by decide) (by decide)) (by decide) (by decide)
            have qx_963 : x_963.toInt = x_860.toInt + (1) := by rw [ex_963]; exact rg_addE h_920 (rg_k (x := Int32.ofInt (1)) (c := 1) (by decide)) (by decide) (by decide) (by decide)
            refine lv_iinc (v := x_963) (lv' := [(3, .int x_963), (4, .int 1), (0, .ref h0), (1, .ref h7), (2, .int p1)]) hx hb dX2_ask_113 hl (k := 1) rfl (ex_963.symm) (by decide) rfl (fun ls hl => ?_)
            clear ex_963
            refine lv_goto (tgt := 2) hx hb dX2_ask_116 (by decide) ?_
            exact ih_918 (x_963, f_961, f_962, x_960, f_864) H locs ls ⟨hP.sub (ws' := [(h0, .inr (2, [.ref h1, .ref h2, .ref h3, .ref h4, .ref h5, .ref h6, .int a0, .int a1])), (h1, .inl (cI, 20, .inl g0)), (h2, .inl (cI, 20, .inl g1)), (h3, .inl (cZ, 20, .inl g2)), (h4, .inl (cZ, 20, .inl g3)), (h5, .inl (cI, 20, .inl g4)), (h6, .inl (cI, 20, .inl g5)), (h7, .inr (7, [.ref h8, .ref h9, .ref h10, .ref h11, .ref h12, .ref h13, .int a2, .int a3, .int a4, .int a5, .int x_960, .int a7, .int a8, .int a9])), (h8, .inl (cI, 9, .inl f_864)), (h9, .inl (cI, 9, .inl f_961)), (h10, .inl (cI, 9, .inl f_962))]) [0, 1, 2, 3, 4, 5, 6, 8, 7, 9, 10] rfl, hD.sub (ws' := [(h0, .inr (2, [.ref h1, .ref h2, .ref h3, .ref h4, .ref h5, .ref h6, .int a0, .int a1])), (h1, .inl (cI, 20, .inl g0)), (h2, .inl (cI, 20, .inl g1)), (h3, .inl (cZ, 20, .inl g2)), (h4, .inl (cZ, 20, .inl g3)), (h5, .inl (cI, 20, .inl g4)), (h6, .inl (cI, 20, .inl g5)), (h7, .inr (7, [.ref h8, .ref h9, .ref h10, .ref h11, .ref h12, .ref h13, .int a2, .int a3, .int a4, .int a5, .int x_960, .int a7, .int a8, .int a9])), (h8, .inl (cI, 9, .inl f_864)), (h9, .inl (cI, 9, .inl f_961)), (h10, .inl (cI, 9, .inl f_962))]) [0, 1, 2, 3, 4, 5, 6, 8, 7, 9, 10] (by decide) rfl, hS, lv_sub hl [0, 2, 3, 4] rfl, (rg_mono hx_963 (by decide) (by decide)), hf_961, hf_962, (rg_mono hx_960 (by decide) (by decide)), hf_864⟩ (by show ((20) - x_963.toInt).toNat < ((20) - x_860.toInt).toNat; have ha := h_920; simp only [rg] at ha; omega)
          · skip
            have h_964 : rg (1) (1) x_953 := by have ha := hx_953; have hb_ := (rg_k (x := 0) (c := 0) (by decide)); simp only [rg, fa_lt, fa_le, fa_eq, (by decide : (0 : Int32).toInt = 0)] at ha hb_ c_954; simp only [rg]; omega
            refine lv_aload_n hx hb dX2_ask_61 rfl (lv_at hl 3 rfl) ?_
            refine lv_aload_n hx hb dX2_ask_62 rfl (lv_at hl 2 rfl) ?_
            refine va_get (D := (dC, dI)) (ci := 2) (v := .ref h1) (C := RX2) (T := TX2) (N := 8) hx hb hts hinX2 hown hK hP 0 rfl rfl 0 (by decide) (hts (.fieldLink RX2 11 "MayRings$Letters" "house" "[I") (List.mem_of_getElem? (i := 5) rfl)) (fun _ h9 => h9) rfl dX2_ask_63 ?_
            refine lv_iload_n hx hb dX2_ask_66 rfl (lv_at hl 1 rfl) ?_
            refine va_iald hx hb hK hP 1 1 rfl rfl (rg_in (n := 20) (rg_mono h_920 (by decide) (by decide))) dX2_ask_67 ?_
            refine lv_topi (fun x_965 ex_965 => ?_)
            have hx_965 : rg (0) (8) x_965 := by rw [ex_965]; exact rg_mono (hg0 _) (by decide) (by decide)
            refine lv_aload_n hx hb dX2_ask_68 rfl (lv_at hl 2 rfl) ?_
            refine va_get (D := (dC, dI)) (ci := 2) (v := .ref h2) (C := RX2) (T := TX2) (N := 8) hx hb hts hinX2 hown hK hP 0 rfl rfl 1 (by decide) (hts (.fieldLink RX2 15 "MayRings$Letters" "where" "[I") (List.mem_of_getElem? (i := 6) rfl)) (fun _ h9 => h9) rfl dX2_ask_69 ?_
            refine lv_iload_n hx hb dX2_ask_72 rfl (lv_at hl 1 rfl) ?_
            refine va_iald hx hb hK hP 2 1 rfl rfl (rg_in (n := 20) (rg_mono h_920 (by decide) (by decide))) dX2_ask_73 ?_
            refine lv_topi (fun x_966 ex_966 => ?_)
            have hx_966 : rg (0) (8) x_966 := by rw [ex_966]; exact rg_mono (hg1 _) (by decide) (by decide)
            refine lv_aload_n hx hb dX2_ask_74 rfl (lv_at hl 2 rfl) ?_
            refine va_get (D := (dC, dI)) (ci := 2) (v := .ref h4) (C := RX2) (T := TX2) (N := 8) hx hb hts hinX2 hown hK hP 0 rfl rfl 3 (by decide) (hts (.fieldLink RX2 22 "MayRings$Letters" "isSo" "[Z") (List.mem_of_getElem? (i := 7) rfl)) (fun _ h9 => h9) rfl dX2_ask_75 ?_
            refine lv_iload_n hx hb dX2_ask_78 rfl (lv_at hl 1 rfl) ?_
            refine va_zald hx hb hK hP 4 3 rfl rfl (rg_in (n := 20) (rg_mono h_920 (by decide) (by decide))) dX2_ask_79 ?_
            refine lv_topi (fun x_967 ex_967 => ?_)
            have hx_967 : rg (0) (1) x_967 := by rw [ex_967]; exact rg_mono (hg3 _) (by decide) (by decide)
            have hPc := hP.sub (ws' := [(h7, .inr (7, [.ref h8, .ref h9, .ref h10, .ref h11, .ref h12, .ref h13, .int a2, .int a3, .int a4, .int a5, .int x_863, .int a7, .int a8, .int a9])), (h8, .inl (cI, 9, .inl f_864))]) [7, 8] rfl
            have hDc := hD.sub (ws' := [(h7, .inr (7, [.ref h8, .ref h9, .ref h10, .ref h11, .ref h12, .ref h13, .int a2, .int a3, .int a4, .int a5, .int x_863, .int a7, .int a8, .int a9])), (h8, .inl (cI, 9, .inl f_864))]) [7, 8] (by decide) rfl
            have hFc := va_free (wc := [(h7, .inr (7, [.ref h8, .ref h9, .ref h10, .ref h11, .ref h12, .ref h13, .int a2, .int a3, .int a4, .int a5, .int x_863, .int a7, .int a8, .int a9])), (h8, .inl (cI, 9, .inl f_864))]) hD hS hA [7, 8] rfl
            refine va_callv (va_runV (As := [.int x_965, .int x_966, .int x_967]) (rest := []) ⟨hx, hb, hml, hown, hts⟩ (c_s_X7_heedPlace l dC dI cB cI cJ cZ cP h7 h8 f_864 hf_864 h9 h10 h11 h12 h13 a2 (rg_mono ha2 (by decide) (by decide)) a3 (rg_mono ha3 (by decide) (by decide)) a4 a5 x_863 (rg_mono hx_863 (by decide) (by decide)) a7 a8 a9 x_965 (rg_mono hx_965 (by decide) (by decide)) x_966 (rg_mono hx_966 (by decide) (by decide)) x_967 (rg_mono hx_967 (by decide) (by decide)) H.size) (cwV 3 hts (gd_V (List.mem_of_getElem? (i := 12) rfl) (List.mem_of_getElem? (i := 13) rfl) (List.mem_of_getElem? (i := 14) rfl) (List.mem_of_getElem? (i := 11) rfl) (gd_mono k_s_X7_heedPlace (fun _ h => List.mem_cons_of_mem _ (List.mem_append_right _ (List.mem_append_right _ (List.mem_append_right _ (List.mem_append_left _ h))))))) rfl rfl rfl (by decide +kernel) ⟨Nat.le_of_ble_eq_true rfl, Nat.le_of_ble_eq_true rfl⟩) ⟨fun a U g mk q => by obtain ⟨q0, q1, qP, qK, qD⟩ := q; exact ⟨q0, q1, qP, va_K.moved (u := U) (U := U.calling g mk a) (Vm.Alike.refl U.vm) qK, qD⟩, va_recv hK hPc (ci := 7) (q0 := 0) rfl rfl, fun U hU hW => ⟨rfl, by rw [hU], by rw [hU]; exact hPc, va_K.moved hW.alike hK, hDc.weaken (fun _ _ _ _ => trivial)⟩⟩ rfl rfl hl.1 rfl (lv_room (Nat.le_of_ble_eq_true rfl)) dX2_ask_80 ⟨Nat.le_of_ble_eq_true rfl, Nat.le_of_ble_eq_true rfl⟩) hS (fun q _ h => hFc q h) hFc (fun u t H1 locs ht hvm hw hB hz1 hk1 hS => ?_)
            obtain ⟨x_969, f_970, hx_969, hf_970, hP1, hD1⟩ := hB
            rw [ht] at hP1
            obtain ⟨hP, hD⟩ := va_join (wr := [(h0, .inr (2, [.ref h1, .ref h2, .ref h3, .ref h4, .ref h5, .ref h6, .int a0, .int a1])), (h1, .inl (cI, 20, .inl g0)), (h2, .inl (cI, 20, .inl g1)), (h3, .inl (cZ, 20, .inl g2)), (h4, .inl (cZ, 20, .inl g3)), (h5, .inl (cI, 20, .inl g4)), (h6, .inl (cI, 20, .inl g5)), (h9, .inl (cI, 9, .inl f_861)), (h10, .inl (cI, 9, .inl f_862))]) (w1 := [(h7, .inr (7, [.ref h8, .ref h9, .ref h10, .ref h11, .ref h12, .ref h13, .int a2, .int a3, .int a4, .int a5, .int x_969, .int a7, .int a8, .int a9])), (h8, .inl (cI, 9, .inl f_970))]) hP hD [7, 8] [0, 1, 2, 3, 4, 5, 6, 9, 10] rfl rfl (by decide) (by decide) hk1 hFc hP1 hD1
            generalize H1 = H at hP hS ⊢
            have hP : va_P (dC, dI) vwCl [(h0, .inr (2, [.ref h1, .ref h2, .ref h3, .ref h4, .ref h5, .ref h6, .int a0, .int a1])), (h1, .inl (cI, 20, .inl g0)), (h2, .inl (cI, 20, .inl g1)), (h3, .inl (cZ, 20, .inl g2)), (h4, .inl (cZ, 20, .inl g3)), (h5, .inl (cI, 20, .inl g4)), (h6, .inl (cI, 20, .inl g5)), (h9, .inl (cI, 9, .inl f_861)), (h10, .inl (cI, 9, .inl f_862)), (h7, .inr (7, [.ref h8, .ref h9, .ref h10, .ref h11, .ref h12, .ref h13, .int a2, .int a3, .int a4, .int a5, .int x_969, .int a7, .int a8, .int a9])), (h8, .inl (cI, 9, .inl f_970))] H := hP
            have hD : va_D A [(h0, .inr (2, [.ref h1, .ref h2, .ref h3, .ref h4, .ref h5, .ref h6, .int a0, .int a1])), (h1, .inl (cI, 20, .inl g0)), (h2, .inl (cI, 20, .inl g1)), (h3, .inl (cZ, 20, .inl g2)), (h4, .inl (cZ, 20, .inl g3)), (h5, .inl (cI, 20, .inl g4)), (h6, .inl (cI, 20, .inl g5)), (h9, .inl (cI, 9, .inl f_861)), (h10, .inl (cI, 9, .inl f_862)), (h7, .inr (7, [.ref h8, .ref h9, .ref h10, .ref h11, .ref h12, .ref h13, .int a2, .int a3, .int a4, .int a5, .int x_969, .int a7, .int a8, .int a9])), (h8, .inl (cI, 9, .inl f_970))] := hD
            refine lv_goto (tgt := 113) hx hb dX2_ask_83 (by decide) ?_
            obtain ⟨x_971, ex_971⟩ : ∃ y : Int32, y = x_860 + Int32.ofInt (1) := ⟨_, rfl⟩
            have hx_971 : rg (1) (20) x_971 := by rw [ex_971]; exact rg_mono (rg_add h_920 (rg_k (x := Int32.ofInt (1)) (c := 1) (by decide)) (by decide) (by decide)) (by decide) (by decide)
            have qx_971 : x_971.toInt = x_860.toInt + (1) := by rw [ex_971]; exact rg_addE h_920 (rg_k (x := Int32.ofInt (1)) (c := 1) (by decide)) (by decide) (by decide) (by decide)
            refine lv_iinc (v := x_971) (lv' := [(3, .int x_971), (4, .int 1), (0, .ref h0), (1, .ref h7), (2, .int p1)]) hx hb dX2_ask_113 hl (k := 1) rfl (ex_971.symm) (by decide) rfl (fun ls hl => ?_)
            clear ex_971
            refine lv_goto (tgt := 2) hx hb dX2_ask_116 (by decide) ?_
            exact ih_918 (x_971, f_861, f_862, x_969, f_970) H locs ls ⟨hP.sub (ws' := [(h0, .inr (2, [.ref h1, .ref h2, .ref h3, .ref h4, .ref h5, .ref h6, .int a0, .int a1])), (h1, .inl (cI, 20, .inl g0)), (h2, .inl (cI, 20, .inl g1)), (h3, .inl (cZ, 20, .inl g2)), (h4, .inl (cZ, 20, .inl g3)), (h5, .inl (cI, 20, .inl g4)), (h6, .inl (cI, 20, .inl g5)), (h7, .inr (7, [.ref h8, .ref h9, .ref h10, .ref h11, .ref h12, .ref h13, .int a2, .int a3, .int a4, .int a5, .int x_969, .int a7, .int a8, .int a9])), (h8, .inl (cI, 9, .inl f_970)), (h9, .inl (cI, 9, .inl f_861)), (h10, .inl (cI, 9, .inl f_862))]) [0, 1, 2, 3, 4, 5, 6, 9, 10, 7, 8] rfl, hD.sub (ws' := [(h0, .inr (2, [.ref h1, .ref h2, .ref h3, .ref h4, .ref h5, .ref h6, .int a0, .int a1])), (h1, .inl (cI, 20, .inl g0)), (h2, .inl (cI, 20, .inl g1)), (h3, .inl (cZ, 20, .inl g2)), (h4, .inl (cZ, 20, .inl g3)), (h5, .inl (cI, 20, .inl g4)), (h6, .inl (cI, 20, .inl g5)), (h7, .inr (7, [.ref h8, .ref h9, .ref h10, .ref h11, .ref h12, .ref h13, .int a2, .int a3, .int a4, .int a5, .int x_969, .int a7, .int a8, .int a9])), (h8, .inl (cI, 9, .inl f_970)), (h9, .inl (cI, 9, .inl f_861)), (h10, .inl (cI, 9, .inl f_862))]) [0, 1, 2, 3, 4, 5, 6, 9, 10, 7, 8] (by decide) rfl, hS, lv_sub hl [0, 2, 3, 4] rfl, (rg_mono hx_971 (by decide) (by decide)), hf_861, hf_862, (rg_mono hx_969 (by decide) (by decide)), hf_970⟩ (by show ((20) - x_971.toInt).toNat < ((20) - x_860.toInt).toNat; have ha := h_920; simp only [rg] at ha; omega)
def v_s_X2_drop : List Cond := Cond.code yX2_drop cX2_drop 2 (some .boolean) :: ([Cond.fieldLink RX2 31 "MayRings$Letters" "count" "I", Cond.fieldLink RX2 28 "MayRings$Letters" "untoldAt" "[I", Cond.fieldLink RX2 35 "MayRings$Letters" "time" "I"] ++ (wsX20 ++ ([])))
theorem k_s_X2_drop : GoodIn lw_tbl v_s_X2_drop := gd_c (List.mem_of_getElem? (i := 1165) (by decide +kernel)) rfl (goodIn_app (gd_c (List.mem_of_getElem? (i := 410) (by decide +kernel)) rfl (gd_c (List.mem_of_getElem? (i := 409) (by decide +kernel)) rfl (gd_c (List.mem_of_getElem? (i := 412) (by decide +kernel)) rfl (gd_nil)))) (goodIn_app kfX2 (gd_nil)))
set_option maxHeartbeats 2000000 in
set_option maxRecDepth 100000 in
theorem c_s_X2_drop (l : Launch) (dC : Nat → ClassId) (dI : Nat → Nat → Nat) (cB cI cJ cZ cP : ClassId) (h0 : Nat) (h1 : Nat) (h2 : Nat) (h3 : Nat) (h4 : Nat) (h5 : Nat) (h6 : Nat) (g5 : Nat → Int32) (a0 : Int32) (ha0 : rg (0) (20) a0) (a1 : Int32) (p0 : Int32) (sz : Nat) : Met l yX2_drop v_s_X2_drop ({ frames := 0, cells := 0, slots := 0, locals := 0 }) (va_Pc [.ref h0, .int p0] (fun U => U.heap.size = sz ∧ va_P (dC, dI) vwCl [(h0, .inr (2, [.ref h1, .ref h2, .ref h3, .ref h4, .ref h5, .ref h6, .int a0, .int a1])), (h6, .inl (cI, 20, .inl g5))] U.heap ∧ va_K (dC, dI) vwCl (ty5 cB cI cJ cZ cP) U ∧ va_D (fun _ => True) [(h0, .inr (2, [.ref h1, .ref h2, .ref h3, .ref h4, .ref h5, .ref h6, .int a0, .int a1])), (h6, .inl (cI, 20, .inl g5))])) (va_Qi (fun (r : Int32) (u9 : Unit) => rg (0) (1) r) (fun u9 t => ∃ (z0 : Nat → Int32), va_P (dC, dI) vwCl [(h0, .inr (2, [.ref h1, .ref h2, .ref h3, .ref h4, .ref h5, .ref h6, .int a0, .int a1])), (h6, .inl (cI, 20, .inl z0))] t.heap ∧ va_D (va_A [(h0, .inr (2, [.ref h1, .ref h2, .ref h3, .ref h4, .ref h5, .ref h6, .int a0, .int a1])), (h6, .inl (cI, 20, .inl g5))] sz) [(h0, .inr (2, [.ref h1, .ref h2, .ref h3, .ref h4, .ref h5, .ref h6, .int a0, .int a1])), (h6, .inl (cI, 20, .inl z0))]) (va_A [(h0, .inr (2, [.ref h1, .ref h2, .ref h3, .ref h4, .ref h5, .ref h6, .int a0, .int a1])), (h6, .inl (cI, 20, .inl g5))] sz)) 0 0 (va_A [(h0, .inr (2, [.ref h1, .ref h2, .ref h3, .ref h4, .ref h5, .ref h6, .int a0, .int a1])), (h6, .inl (cI, 20, .inl g5))] sz) := by
  refine Met.ofW (cc := cX2_drop) (maxL := 2) (ret := (some .boolean)) (by decide) rfl ?_
  intro p e s m args below meth c s₁ B hml hv
  obtain ⟨rfl, hsz, hP, hK, hD0⟩ := hv
  have hx := B.exec
  have hb := B.bytes
  have hr := B.returns
  have hts := atoms_spec (ws := v_s_X2_drop) B.pre
  have hown : s.vm.findClass RX2 = some m.cls := findClass_of_methodNamed B.named
  have hlocks := B.notSynchronized
  have hinX2 : ∀ w ∈ wsX20, w ∈ v_s_X2_drop := fun _ h => List.mem_cons_of_mem _ (List.mem_append_right _ (List.mem_append_left _ h))
  subst hsz
  have hD := hD0.self (sz := s.heap.size)
  generalize hAe : va_A [(h0, .inr (2, [.ref h1, .ref h2, .ref h3, .ref h4, .ref h5, .ref h6, .int a0, .int a1])), (h6, .inl (cI, 20, .inl g5))] s.heap.size = A at hD ⊢
  have hA : ∀ q : Nat, s.heap.size ≤ q → A q := fun q h => by rw [← hAe]; exact Or.inr h
  have hP : va_P (dC, dI) vwCl [(h0, .inr (2, [.ref h1, .ref h2, .ref h3, .ref h4, .ref h5, .ref h6, .int a0, .int a1])), (h6, .inl (cI, 20, .inl g5))] s.heap := hP
  have hl := lv_entry ([.ref h0, .int p0]) (n := 2) (Nat.le_of_ble_eq_true rfl)
  rw [lg_entry_eq]
  generalize (lg_sl ([.ref h0, .int p0]) ++ List.replicate (2 - (lg_sl ([.ref h0, .int p0])).length) Slot.unset).toArray = ls at hl ⊢
  have hl : lv_has ls 2 [(0, .ref h0), (1, .int p0)] := hl
  refine W_gen (A := A) hP (fun H locs hP hS => ?_)
  refine lv_iload_n hx hb dX2_drop_0 rfl (lv_at hl 1 rfl) ?_
  refine lv_if_lt (tgt := 22) hx hb dX2_drop_1 (by decide) (fun c_1 => ?_) (fun c_1 => ?_)
  · skip
    have h_2 : rg (-2147483648) (-1) p0 := by have ha := (rg_any p0); have hb_ := (rg_k (x := 0) (c := 0) (by decide)); simp only [rg, fa_lt, fa_le, fa_eq, (by decide : (0 : Int32).toInt = 0)] at ha hb_ c_1; simp only [rg]; omega
    refine lv_iconst (v := 0) hx hb dX2_drop_22 (by decide) ?_
    have hP9 := hP.sub (ws' := [(h0, .inr (2, [.ref h1, .ref h2, .ref h3, .ref h4, .ref h5, .ref h6, .int a0, .int a1])), (h6, .inl (cI, 20, .inl g5))]) [0, 1] rfl
    have hD9 := hD.sub (ws' := [(h0, .inr (2, [.ref h1, .ref h2, .ref h3, .ref h4, .ref h5, .ref h6, .int a0, .int a1])), (h6, .inl (cI, 20, .inl g5))]) [0, 1] (by decide) rfl
    exact W.zret (v := 0) hx hb hr (rfl) (fun t ht hW => ⟨⟨0, (), rfl, (rg_mono (rg_k (x := 0) (c := 0) (by decide)) (by decide) (by decide)), ⟨g5, by rw [ht]; exact hP9, hD9⟩⟩, hS.F ht⟩) hS.2.2 dX2_drop_23
  · skip
    have h_3 : rg (0) (2147483647) p0 := by have ha := (rg_any p0); have hb_ := (rg_k (x := 0) (c := 0) (by decide)); simp only [rg, fa_lt, fa_le, fa_eq, (by decide : (0 : Int32).toInt = 0)] at ha hb_ c_1; simp only [rg]; omega
    refine lv_iload_n hx hb dX2_drop_4 rfl (lv_at hl 1 rfl) ?_
    refine lv_aload_n hx hb dX2_drop_5 rfl (lv_at hl 0 rfl) ?_
    refine va_get (D := (dC, dI)) (ci := 2) (v := .int a0) (C := RX2) (T := TX2) (N := 8) hx hb hts hinX2 hown hK hP 0 rfl rfl 6 (by decide) (hts (.fieldLink RX2 31 "MayRings$Letters" "count" "I") (List.mem_of_getElem? (i := 1) rfl)) (fun _ h9 => h9) rfl dX2_drop_6 ?_
    refine lv_icmp_ge (tgt := 22) hx hb dX2_drop_9 (by decide) (fun c_4 => ?_) (fun c_4 => ?_)
    · skip
      refine lv_iconst (v := 0) hx hb dX2_drop_22 (by decide) ?_
      have hP9 := hP.sub (ws' := [(h0, .inr (2, [.ref h1, .ref h2, .ref h3, .ref h4, .ref h5, .ref h6, .int a0, .int a1])), (h6, .inl (cI, 20, .inl g5))]) [0, 1] rfl
      have hD9 := hD.sub (ws' := [(h0, .inr (2, [.ref h1, .ref h2, .ref h3, .ref h4, .ref h5, .ref h6, .int a0, .int a1])), (h6, .inl (cI, 20, .inl g5))]) [0, 1] (by decide) rfl
      exact W.zret (v := 0) hx hb hr (rfl) (fun t ht hW => ⟨⟨0, (), rfl, (rg_mono (rg_k (x := 0) (c := 0) (by decide)) (by decide) (by decide)), ⟨g5, by rw [ht]; exact hP9, hD9⟩⟩, hS.F ht⟩) hS.2.2 dX2_drop_23
    · skip
      have h_5 : rg (0) (19) p0 := by have ha := h_3; have hb_ := ha0; simp only [rg, fa_lt, fa_le, fa_eq] at ha hb_ c_4; simp only [rg]; omega
      have h_6 : rg (1) (20) a0 := by have ha := h_3; have hb_ := ha0; simp only [rg, fa_lt, fa_le, fa_eq] at ha hb_ c_4; simp only [rg]; omega
      refine lv_aload_n hx hb dX2_drop_12 rfl (lv_at hl 0 rfl) ?_
      refine va_get (D := (dC, dI)) (ci := 2) (v := .ref h6) (C := RX2) (T := TX2) (N := 8) hx hb hts hinX2 hown hK hP 0 rfl rfl 5 (by decide) (hts (.fieldLink RX2 28 "MayRings$Letters" "untoldAt" "[I") (List.mem_of_getElem? (i := 2) rfl)) (fun _ h9 => h9) rfl dX2_drop_13 ?_
      refine lv_iload_n hx hb dX2_drop_16 rfl (lv_at hl 1 rfl) ?_
      refine va_iald hx hb hK hP 1 1 rfl rfl (rg_in (n := 20) (rg_mono h_5 (by decide) (by decide))) dX2_drop_17 ?_
      refine lv_topi (fun x_7 ex_7 => ?_)
      refine lv_iconst (v := (-1)) hx hb dX2_drop_18 (by decide) ?_
      refine lv_icmp_eq (tgt := 24) hx hb dX2_drop_19 (by decide) (fun c_8 => ?_) (fun c_8 => ?_)
      · skip
        have h_9 : rg (-1) (-1) x_7 := by have ha := (rg_any x_7); have hb_ := (rg_k (x := (-1)) (c := -1) (by decide)); simp only [rg, fa_lt, fa_le, fa_eq, (by decide : ((-1) : Int32).toInt = -1)] at ha hb_ c_8; simp only [rg]; omega
        refine lv_aload_n hx hb dX2_drop_24 rfl (lv_at hl 0 rfl) ?_
        refine va_get (D := (dC, dI)) (ci := 2) (v := .ref h6) (C := RX2) (T := TX2) (N := 8) hx hb hts hinX2 hown hK hP 0 rfl rfl 5 (by decide) (hts (.fieldLink RX2 28 "MayRings$Letters" "untoldAt" "[I") (List.mem_of_getElem? (i := 2) rfl)) (fun _ h9 => h9) rfl dX2_drop_25 ?_
        refine lv_iload_n hx hb dX2_drop_28 rfl (lv_at hl 1 rfl) ?_
        refine lv_aload_n hx hb dX2_drop_29 rfl (lv_at hl 0 rfl) ?_
        refine va_get (D := (dC, dI)) (ci := 2) (v := .int a1) (C := RX2) (T := TX2) (N := 8) hx hb hts hinX2 hown hK hP 0 rfl rfl 7 (by decide) (hts (.fieldLink RX2 35 "MayRings$Letters" "time" "I") (List.mem_of_getElem? (i := 3) rfl)) (fun _ h9 => h9) rfl dX2_drop_30 ?_
        refine va_iast hx hb hK hP hD hS 1 1 rfl rfl (rg_in (n := 20) (rg_mono h_5 (by decide) (by decide))) dX2_drop_33 (fun H locs hP hD hS => ?_)
        obtain ⟨f_10, ef_10⟩ : ∃ f : Nat → Int32, f = upd g5 (p0 : Int32).toNatClampNeg a1 := ⟨_, rfl⟩
        rw [← ef_10] at hP hD
        clear ef_10
        have hP : va_P (dC, dI) vwCl [(h0, .inr (2, [.ref h1, .ref h2, .ref h3, .ref h4, .ref h5, .ref h6, .int a0, .int a1])), (h6, .inl (cI, 20, .inl f_10))] H := hP
        have hD : va_D A [(h0, .inr (2, [.ref h1, .ref h2, .ref h3, .ref h4, .ref h5, .ref h6, .int a0, .int a1])), (h6, .inl (cI, 20, .inl f_10))] := hD
        refine lv_iconst (v := 1) hx hb dX2_drop_34 (by decide) ?_
        have hP9 := hP.sub (ws' := [(h0, .inr (2, [.ref h1, .ref h2, .ref h3, .ref h4, .ref h5, .ref h6, .int a0, .int a1])), (h6, .inl (cI, 20, .inl f_10))]) [0, 1] rfl
        have hD9 := hD.sub (ws' := [(h0, .inr (2, [.ref h1, .ref h2, .ref h3, .ref h4, .ref h5, .ref h6, .int a0, .int a1])), (h6, .inl (cI, 20, .inl f_10))]) [0, 1] (by decide) rfl
        exact W.zret (v := 1) hx hb hr (rfl) (fun t ht hW => ⟨⟨1, (), rfl, (rg_mono (rg_k (x := 1) (c := 1) (by decide)) (by decide) (by decide)), ⟨f_10, by rw [ht]; exact hP9, hD9⟩⟩, hS.F ht⟩) hS.2.2 dX2_drop_35
      · skip
        refine lv_iconst (v := 0) hx hb dX2_drop_22 (by decide) ?_
        have hP9 := hP.sub (ws' := [(h0, .inr (2, [.ref h1, .ref h2, .ref h3, .ref h4, .ref h5, .ref h6, .int a0, .int a1])), (h6, .inl (cI, 20, .inl g5))]) [0, 1] rfl
        have hD9 := hD.sub (ws' := [(h0, .inr (2, [.ref h1, .ref h2, .ref h3, .ref h4, .ref h5, .ref h6, .int a0, .int a1])), (h6, .inl (cI, 20, .inl g5))]) [0, 1] (by decide) rfl
        exact W.zret (v := 0) hx hb hr (rfl) (fun t ht hW => ⟨⟨0, (), rfl, (rg_mono (rg_k (x := 0) (c := 0) (by decide)) (by decide) (by decide)), ⟨g5, by rw [ht]; exact hP9, hD9⟩⟩, hS.F ht⟩) hS.2.2 dX2_drop_23
def v_s_X3_copy : List Cond := Cond.code yX3_copy cX3_copy 2 none :: ([Cond.fieldLink RX3 9 "MayRings$Order" "houses" "[I", Cond.methodLink RX3 19 arraycopyName, Cond.native arraycopyName, Cond.static arraycopyName, Cond.initialized RJ10, Cond.fieldLink RX3 15 "MayRings$Order" "size" "I"] ++ (wsX30 ++ ([])))
theorem k_s_X3_copy : GoodIn lw_tbl v_s_X3_copy := gd_c (List.mem_of_getElem? (i := 1126) (by decide +kernel)) rfl (goodIn_app (gd_c (List.mem_of_getElem? (i := 360) (by decide +kernel)) rfl (gd_c (List.mem_of_getElem? (i := 1127) (by decide +kernel)) rfl (gd_c (List.mem_of_getElem? (i := 1129) (by decide +kernel)) rfl (gd_c (List.mem_of_getElem? (i := 1128) (by decide +kernel)) rfl (gd_c (List.mem_of_getElem? (i := 148) (by decide +kernel)) rfl (gd_c (List.mem_of_getElem? (i := 363) (by decide +kernel)) rfl (gd_nil))))))) (goodIn_app kfX3 (gd_nil)))
set_option maxHeartbeats 2000000 in
set_option maxRecDepth 100000 in
theorem c_s_X3_copy (l : Launch) (dC : Nat → ClassId) (dI : Nat → Nat → Nat) (cB cI cJ cZ cP : ClassId) (h0 : Nat) (h1 : Nat) (g0 : Nat → Int32) (hg0 : rgA (0) (8) g0) (a0 : Int32) (h2 : Nat) (h3 : Nat) (g1 : Nat → Int32) (hg1 : rgA (0) (8) g1) (a1 : Int32) (sz : Nat) : Met l yX3_copy v_s_X3_copy ({ frames := 1, cells := 0, slots := 0, locals := 80 }) (va_Pc [.ref h0, .ref h2] (fun U => U.heap.size = sz ∧ va_P (dC, dI) vwCl [(h0, .inr (3, [.ref h1, .int a0])), (h1, .inl (cI, 9, .inl g0)), (h2, .inr (3, [.ref h3, .int a1])), (h3, .inl (cI, 9, .inl g1))] U.heap ∧ va_K (dC, dI) vwCl (ty5 cB cI cJ cZ cP) U ∧ va_D (fun _ => True) [(h0, .inr (3, [.ref h1, .int a0])), (h1, .inl (cI, 9, .inl g0)), (h2, .inr (3, [.ref h3, .int a1])), (h3, .inl (cI, 9, .inl g1))])) (va_Qv (fun _ : Unit => True) (fun _ t => ∃ (z0 : Nat → Int32), rgA (0) (8) z0 ∧ va_P (dC, dI) vwCl [(h0, .inr (3, [.ref h1, .int a1])), (h1, .inl (cI, 9, .inl z0)), (h2, .inr (3, [.ref h3, .int a1])), (h3, .inl (cI, 9, .inl g1))] t.heap ∧ va_D (va_A [(h0, .inr (3, [.ref h1, .int a0])), (h1, .inl (cI, 9, .inl g0)), (h2, .inr (3, [.ref h3, .int a1])), (h3, .inl (cI, 9, .inl g1))] sz) [(h0, .inr (3, [.ref h1, .int a1])), (h1, .inl (cI, 9, .inl z0)), (h2, .inr (3, [.ref h3, .int a1])), (h3, .inl (cI, 9, .inl g1))]) (va_A [(h0, .inr (3, [.ref h1, .int a0])), (h1, .inl (cI, 9, .inl g0)), (h2, .inr (3, [.ref h3, .int a1])), (h3, .inl (cI, 9, .inl g1))] sz)) 0 0 (va_A [(h0, .inr (3, [.ref h1, .int a0])), (h1, .inl (cI, 9, .inl g0)), (h2, .inr (3, [.ref h3, .int a1])), (h3, .inl (cI, 9, .inl g1))] sz) := by
  refine Met.ofW (cc := cX3_copy) (maxL := 2) (ret := none) (by decide) rfl ?_
  intro p e s m args below meth c s₁ B hml hv
  obtain ⟨rfl, hsz, hP, hK, hD0⟩ := hv
  have hx := B.exec
  have hb := B.bytes
  have hr := B.returns
  have hts := atoms_spec (ws := v_s_X3_copy) B.pre
  have hown : s.vm.findClass RX3 = some m.cls := findClass_of_methodNamed B.named
  have hlocks := B.notSynchronized
  have hinX3 : ∀ w ∈ wsX30, w ∈ v_s_X3_copy := fun _ h => List.mem_cons_of_mem _ (List.mem_append_right _ (List.mem_append_left _ h))
  subst hsz
  have hD := hD0.self (sz := s.heap.size)
  generalize hAe : va_A [(h0, .inr (3, [.ref h1, .int a0])), (h1, .inl (cI, 9, .inl g0)), (h2, .inr (3, [.ref h3, .int a1])), (h3, .inl (cI, 9, .inl g1))] s.heap.size = A at hD ⊢
  have hA : ∀ q : Nat, s.heap.size ≤ q → A q := fun q h => by rw [← hAe]; exact Or.inr h
  have hP : va_P (dC, dI) vwCl [(h0, .inr (3, [.ref h1, .int a0])), (h1, .inl (cI, 9, .inl g0)), (h2, .inr (3, [.ref h3, .int a1])), (h3, .inl (cI, 9, .inl g1))] s.heap := hP
  have hl := lv_entry ([.ref h0, .ref h2]) (n := 2) (Nat.le_of_ble_eq_true rfl)
  rw [lg_entry_eq]
  generalize (lg_sl ([.ref h0, .ref h2]) ++ List.replicate (2 - (lg_sl ([.ref h0, .ref h2])).length) Slot.unset).toArray = ls at hl ⊢
  have hl : lv_has ls 2 [(0, .ref h0), (1, .ref h2)] := hl
  refine W_gen (A := A) hP (fun H locs hP hS => ?_)
  refine lv_aload_n hx hb dX3_copy_0 rfl (lv_at hl 1 rfl) ?_
  refine va_get (D := (dC, dI)) (ci := 3) (v := .ref h3) (C := RX3) (T := TX3) (N := 2) hx hb hts hinX3 hown hK hP 2 rfl rfl 0 (by decide) (hts (.fieldLink RX3 9 "MayRings$Order" "houses" "[I") (List.mem_of_getElem? (i := 1) rfl)) (fun _ h9 => h9) rfl dX3_copy_1 ?_
  refine lv_iconst (v := 0) hx hb dX3_copy_4 (by decide) ?_
  refine lv_aload_n hx hb dX3_copy_5 rfl (lv_at hl 0 rfl) ?_
  refine va_get (D := (dC, dI)) (ci := 3) (v := .ref h1) (C := RX3) (T := TX3) (N := 2) hx hb hts hinX3 hown hK hP 0 rfl rfl 0 (by decide) (hts (.fieldLink RX3 9 "MayRings$Order" "houses" "[I") (List.mem_of_getElem? (i := 1) rfl)) (fun _ h9 => h9) rfl dX3_copy_6 ?_
  refine lv_iconst (v := 0) hx hb dX3_copy_9 (by decide) ?_
  refine lv_bipush (v := 9) hx hb dX3_copy_10 (by decide) ?_
  refine va_copyi hx hb (by rw [hml]; exact hl.1.symm) hown (hts (.methodLink RX3 19 arraycopyName) (List.mem_of_getElem? (i := 2) rfl)) (hts (.native arraycopyName) (List.mem_of_getElem? (i := 3) rfl)) (hts (.static arraycopyName) (List.mem_of_getElem? (i := 4) rfl)) (hts (.initialized RJ10) (List.mem_of_getElem? (i := 5) rfl)) hK hP hD hS 3 1 1 1 rfl rfl rfl rfl rfl (by decide) (by decide) (by decide) (by decide) (by decide) (fun _ _ => rfl) (Nat.le_of_ble_eq_true rfl) (Nat.le_of_ble_eq_true rfl) dX3_copy_12 (fun H locs hP hD hS => ?_)
  obtain ⟨f_1, ef_1⟩ : ∃ f : Nat → Int32, f = va_cpy g1 g0 (0 : Int32).toNatClampNeg (0 : Int32).toNatClampNeg (9 : Int32).toNatClampNeg := ⟨_, rfl⟩
  rw [← ef_1] at hP hD
  have hf_1 : rgA (0) (8) f_1 := by rw [ef_1]; exact rgA_cpy hg1 hg0
  clear ef_1
  have hP : va_P (dC, dI) vwCl [(h0, .inr (3, [.ref h1, .int a0])), (h1, .inl (cI, 9, .inl f_1)), (h2, .inr (3, [.ref h3, .int a1])), (h3, .inl (cI, 9, .inl g1))] H := hP
  have hD : va_D A [(h0, .inr (3, [.ref h1, .int a0])), (h1, .inl (cI, 9, .inl f_1)), (h2, .inr (3, [.ref h3, .int a1])), (h3, .inl (cI, 9, .inl g1))] := hD
  refine lv_aload_n hx hb dX3_copy_15 rfl (lv_at hl 0 rfl) ?_
  refine lv_aload_n hx hb dX3_copy_16 rfl (lv_at hl 1 rfl) ?_
  refine va_get (D := (dC, dI)) (ci := 3) (v := .int a1) (C := RX3) (T := TX3) (N := 2) hx hb hts hinX3 hown hK hP 2 rfl rfl 1 (by decide) (hts (.fieldLink RX3 15 "MayRings$Order" "size" "I") (List.mem_of_getElem? (i := 6) rfl)) (fun _ h9 => h9) rfl dX3_copy_17 ?_
  refine va_put (D := (dC, dI)) (ci := 3) (v := .int a1) (ty := .int) (C := RX3) (T := TX3) (N := 2) hx hb hts hinX3 tyX3 tyX3_ok nmX3 hown hK hP hD hS 0 rfl rfl 1 (by decide) (hts (.fieldLink RX3 15 "MayRings$Order" "size" "I") (List.mem_of_getElem? (i := 6) rfl)) (fun _ h9 => h9) rfl (by decide +kernel) (rfl) (rfl) (Nat.le_of_ble_eq_true rfl) dX3_copy_20 (fun H locs hP hD hS => ?_)
  have hP : va_P (dC, dI) vwCl [(h0, .inr (3, [.ref h1, .int a1])), (h1, .inl (cI, 9, .inl f_1)), (h2, .inr (3, [.ref h3, .int a1])), (h3, .inl (cI, 9, .inl g1))] H := hP
  have hD : va_D A [(h0, .inr (3, [.ref h1, .int a1])), (h1, .inl (cI, 9, .inl f_1)), (h2, .inr (3, [.ref h3, .int a1])), (h3, .inl (cI, 9, .inl g1))] := hD
  have hP9 := hP.sub (ws' := [(h0, .inr (3, [.ref h1, .int a1])), (h1, .inl (cI, 9, .inl f_1)), (h2, .inr (3, [.ref h3, .int a1])), (h3, .inl (cI, 9, .inl g1))]) [0, 1, 2, 3] rfl
  have hD9 := hD.sub (ws' := [(h0, .inr (3, [.ref h1, .int a1])), (h1, .inl (cI, 9, .inl f_1)), (h2, .inr (3, [.ref h3, .int a1])), (h3, .inl (cI, 9, .inl g1))]) [0, 1, 2, 3] (by decide) rfl
  exact W.vret hx hb hr (fun t ht hW => ⟨⟨(), rfl, trivial, ⟨f_1, hf_1, by rw [ht]; exact hP9, hD9⟩⟩, hS.F ht⟩) hS.2.2 dX3_copy_23
def v_s_X3_holds : List Cond := Cond.code yX3_holds cX3_holds 3 (some .boolean) :: ([Cond.fieldLink RX3 15 "MayRings$Order" "size" "I", Cond.fieldLink RX3 9 "MayRings$Order" "houses" "[I"] ++ (wsX30 ++ ([])))
theorem k_s_X3_holds : GoodIn lw_tbl v_s_X3_holds := gd_c (List.mem_of_getElem? (i := 856) (by decide +kernel)) rfl (goodIn_app (gd_c (List.mem_of_getElem? (i := 363) (by decide +kernel)) rfl (gd_c (List.mem_of_getElem? (i := 360) (by decide +kernel)) rfl (gd_nil))) (goodIn_app kfX3 (gd_nil)))
set_option maxHeartbeats 2000000 in
set_option maxRecDepth 100000 in
theorem c_s_X3_holds (l : Launch) (dC : Nat → ClassId) (dI : Nat → Nat → Nat) (cB cI cJ cZ cP : ClassId) (h0 : Nat) (h1 : Nat) (g0 : Nat → Int32) (hg0 : rgA (0) (8) g0) (a0 : Int32) (ha0 : rg (-1) (9) a0) (p0 : Int32) (sz : Nat) : Met l yX3_holds v_s_X3_holds ({ frames := 0, cells := 0, slots := 0, locals := 0 }) (va_Pc [.ref h0, .int p0] (fun U => U.heap.size = sz ∧ va_P (dC, dI) vwCl [(h0, .inr (3, [.ref h1, .int a0])), (h1, .inl (cI, 9, .inl g0))] U.heap ∧ va_K (dC, dI) vwCl (ty5 cB cI cJ cZ cP) U ∧ va_D (fun _ => True) [(h0, .inr (3, [.ref h1, .int a0])), (h1, .inl (cI, 9, .inl g0))])) (va_Qi (fun (r : Int32) (u9 : Unit) => rg (0) (1) r) (fun u9 t => va_P (dC, dI) vwCl [(h0, .inr (3, [.ref h1, .int a0])), (h1, .inl (cI, 9, .inl g0))] t.heap ∧ va_D (va_A [(h0, .inr (3, [.ref h1, .int a0])), (h1, .inl (cI, 9, .inl g0))] sz) [(h0, .inr (3, [.ref h1, .int a0])), (h1, .inl (cI, 9, .inl g0))]) (va_A [(h0, .inr (3, [.ref h1, .int a0])), (h1, .inl (cI, 9, .inl g0))] sz)) 0 0 (va_A [(h0, .inr (3, [.ref h1, .int a0])), (h1, .inl (cI, 9, .inl g0))] sz) := by
  refine Met.ofW (cc := cX3_holds) (maxL := 3) (ret := (some .boolean)) (by decide) rfl ?_
  intro p e s m args below meth c s₁ B hml hv
  obtain ⟨rfl, hsz, hP, hK, hD0⟩ := hv
  have hx := B.exec
  have hb := B.bytes
  have hr := B.returns
  have hts := atoms_spec (ws := v_s_X3_holds) B.pre
  have hown : s.vm.findClass RX3 = some m.cls := findClass_of_methodNamed B.named
  have hlocks := B.notSynchronized
  have hinX3 : ∀ w ∈ wsX30, w ∈ v_s_X3_holds := fun _ h => List.mem_cons_of_mem _ (List.mem_append_right _ (List.mem_append_left _ h))
  subst hsz
  have hD := hD0.self (sz := s.heap.size)
  generalize hAe : va_A [(h0, .inr (3, [.ref h1, .int a0])), (h1, .inl (cI, 9, .inl g0))] s.heap.size = A at hD ⊢
  have hA : ∀ q : Nat, s.heap.size ≤ q → A q := fun q h => by rw [← hAe]; exact Or.inr h
  have hP : va_P (dC, dI) vwCl [(h0, .inr (3, [.ref h1, .int a0])), (h1, .inl (cI, 9, .inl g0))] s.heap := hP
  have hl := lv_entry ([.ref h0, .int p0]) (n := 3) (Nat.le_of_ble_eq_true rfl)
  rw [lg_entry_eq]
  generalize (lg_sl ([.ref h0, .int p0]) ++ List.replicate (3 - (lg_sl ([.ref h0, .int p0])).length) Slot.unset).toArray = ls at hl ⊢
  have hl : lv_has ls 3 [(0, .ref h0), (1, .int p0)] := hl
  refine W_gen (A := A) hP (fun H locs hP hS => ?_)
  refine lv_iconst (v := 0) hx hb dX3_holds_0 (by decide) ?_
  refine lv_istore_n (lv' := [(2, .int 0), (0, .ref h0), (1, .int p0)]) hx hb dX3_holds_1 rfl hl (by decide) rfl (fun ls hl => ?_)
  refine W_loopM (σ := Int32) (fun u H locs ls => va_P (dC, dI) vwCl [(h0, .inr (3, [.ref h1, .int a0])), (h1, .inl (cI, 9, .inl g0))] H ∧ va_D A [(h0, .inr (3, [.ref h1, .int a0])), (h1, .inl (cI, 9, .inl g0))] ∧ va_S A s.heap H locs ∧ lv_has ls 3 [(2, .int u), (0, .ref h0), (1, .int p0)] ∧ rg (0) (9) u) (fun u => ((9) - u.toInt).toNat) 2 [] ?_ (0) H locs ls ⟨hP, hD, hS, hl, (rg_mono (rg_k (x := 0) (c := 0) (by decide)) (by decide) (by decide))⟩
  rintro x_71 H locs ls ⟨hP, hD, hS, hl, hx_71⟩ ih_79
  have hP : va_P (dC, dI) vwCl [(h0, .inr (3, [.ref h1, .int a0])), (h1, .inl (cI, 9, .inl g0))] H := hP
  have hD : va_D A [(h0, .inr (3, [.ref h1, .int a0])), (h1, .inl (cI, 9, .inl g0))] := hD
  have hl : lv_has ls 3 [(2, .int x_71), (0, .ref h0), (1, .int p0)] := hl
  have hx_71 : rg (0) (9) x_71 := hx_71
  refine lv_iload_n hx hb dX3_holds_2 rfl (lv_at hl 0 rfl) ?_
  refine lv_aload_n hx hb dX3_holds_3 rfl (lv_at hl 1 rfl) ?_
  refine va_get (D := (dC, dI)) (ci := 3) (v := .int a0) (C := RX3) (T := TX3) (N := 2) hx hb hts hinX3 hown hK hP 0 rfl rfl 1 (by decide) (hts (.fieldLink RX3 15 "MayRings$Order" "size" "I") (List.mem_of_getElem? (i := 1) rfl)) (fun _ h9 => h9) rfl dX3_holds_4 ?_
  refine lv_icmp_ge (tgt := 28) hx hb dX3_holds_7 (by decide) (fun c_80 => ?_) (fun c_80 => ?_)
  · skip
    refine lv_iconst (v := 0) hx hb dX3_holds_28 (by decide) ?_
    have hP9 := hP.sub (ws' := [(h0, .inr (3, [.ref h1, .int a0])), (h1, .inl (cI, 9, .inl g0))]) [0, 1] rfl
    have hD9 := hD.sub (ws' := [(h0, .inr (3, [.ref h1, .int a0])), (h1, .inl (cI, 9, .inl g0))]) [0, 1] (by decide) rfl
    exact W.zret (v := 0) hx hb hr (rfl) (fun t ht hW => ⟨⟨0, (), rfl, (rg_mono (rg_k (x := 0) (c := 0) (by decide)) (by decide) (by decide)), ⟨by rw [ht]; exact hP9, hD9⟩⟩, hS.F ht⟩) hS.2.2 dX3_holds_29
  · skip
    have h_81 : rg (0) (8) x_71 := by have ha := hx_71; have hb_ := ha0; simp only [rg, fa_lt, fa_le, fa_eq] at ha hb_ c_80; simp only [rg]; omega
    have h_82 : rg (1) (9) a0 := by have ha := hx_71; have hb_ := ha0; simp only [rg, fa_lt, fa_le, fa_eq] at ha hb_ c_80; simp only [rg]; omega
    refine lv_aload_n hx hb dX3_holds_10 rfl (lv_at hl 1 rfl) ?_
    refine va_get (D := (dC, dI)) (ci := 3) (v := .ref h1) (C := RX3) (T := TX3) (N := 2) hx hb hts hinX3 hown hK hP 0 rfl rfl 0 (by decide) (hts (.fieldLink RX3 9 "MayRings$Order" "houses" "[I") (List.mem_of_getElem? (i := 2) rfl)) (fun _ h9 => h9) rfl dX3_holds_11 ?_
    refine lv_iload_n hx hb dX3_holds_14 rfl (lv_at hl 0 rfl) ?_
    refine va_iald hx hb hK hP 1 1 rfl rfl (rg_in (n := 9) (rg_mono h_81 (by decide) (by decide))) dX3_holds_15 ?_
    refine lv_topi (fun x_83 ex_83 => ?_)
    have hx_83 : rg (0) (8) x_83 := by rw [ex_83]; exact rg_mono (hg0 _) (by decide) (by decide)
    refine lv_iload_n hx hb dX3_holds_16 rfl (lv_at hl 2 rfl) ?_
    refine lv_icmp_ne (tgt := 22) hx hb dX3_holds_17 (by decide) (fun c_84 => ?_) (fun c_84 => ?_)
    · skip
      obtain ⟨x_85, ex_85⟩ : ∃ y : Int32, y = x_71 + Int32.ofInt (1) := ⟨_, rfl⟩
      have hx_85 : rg (1) (9) x_85 := by rw [ex_85]; exact rg_mono (rg_add h_81 (rg_k (x := Int32.ofInt (1)) (c := 1) (by decide)) (by decide) (by decide)) (by decide) (by decide)
      have qx_85 : x_85.toInt = x_71.toInt + (1) := by rw [ex_85]; exact rg_addE h_81 (rg_k (x := Int32.ofInt (1)) (c := 1) (by decide)) (by decide) (by decide) (by decide)
      refine lv_iinc (v := x_85) (lv' := [(2, .int x_85), (0, .ref h0), (1, .int p0)]) hx hb dX3_holds_22 hl (k := 0) rfl (ex_85.symm) (by decide) rfl (fun ls hl => ?_)
      clear ex_85
      refine lv_goto (tgt := 2) hx hb dX3_holds_25 (by decide) ?_
      exact ih_79 (x_85) H locs ls ⟨hP.sub (ws' := [(h0, .inr (3, [.ref h1, .int a0])), (h1, .inl (cI, 9, .inl g0))]) [0, 1] rfl, hD.sub (ws' := [(h0, .inr (3, [.ref h1, .int a0])), (h1, .inl (cI, 9, .inl g0))]) [0, 1] (by decide) rfl, hS, lv_sub hl [0, 1, 2] rfl, (rg_mono hx_85 (by decide) (by decide))⟩ (by show ((9) - x_85.toInt).toNat < ((9) - x_71.toInt).toNat; have ha := h_81; simp only [rg] at ha; omega)
    · skip
      have h_86 : rg (0) (8) p0 := by have ha := hx_83; have hb_ := (rg_any p0); simp only [rg, fa_lt, fa_le, fa_eq] at ha hb_ c_84; simp only [rg]; omega
      refine lv_iconst (v := 1) hx hb dX3_holds_20 (by decide) ?_
      have hP9 := hP.sub (ws' := [(h0, .inr (3, [.ref h1, .int a0])), (h1, .inl (cI, 9, .inl g0))]) [0, 1] rfl
      have hD9 := hD.sub (ws' := [(h0, .inr (3, [.ref h1, .int a0])), (h1, .inl (cI, 9, .inl g0))]) [0, 1] (by decide) rfl
      exact W.zret (v := 1) hx hb hr (rfl) (fun t ht hW => ⟨⟨1, (), rfl, (rg_mono (rg_k (x := 1) (c := 1) (by decide)) (by decide) (by decide)), ⟨by rw [ht]; exact hP9, hD9⟩⟩, hS.F ht⟩) hS.2.2 dX3_holds_21
def v_s_X3_houseAt : List Cond := Cond.code yX3_houseAt cX3_houseAt 2 (some .int) :: ([Cond.fieldLink RX3 15 "MayRings$Order" "size" "I", Cond.fieldLink RX3 9 "MayRings$Order" "houses" "[I"] ++ (wsX30 ++ ([])))
theorem k_s_X3_houseAt : GoodIn lw_tbl v_s_X3_houseAt := gd_c (List.mem_of_getElem? (i := 1118) (by decide +kernel)) rfl (goodIn_app (gd_c (List.mem_of_getElem? (i := 363) (by decide +kernel)) rfl (gd_c (List.mem_of_getElem? (i := 360) (by decide +kernel)) rfl (gd_nil))) (goodIn_app kfX3 (gd_nil)))
set_option maxHeartbeats 2000000 in
set_option maxRecDepth 100000 in
theorem c_s_X3_houseAt (l : Launch) (dC : Nat → ClassId) (dI : Nat → Nat → Nat) (cB cI cJ cZ cP : ClassId) (h0 : Nat) (h1 : Nat) (g0 : Nat → Int32) (hg0 : rgA (0) (8) g0) (a0 : Int32) (ha0 : rg (-1) (9) a0) (p0 : Int32) (sz : Nat) : Met l yX3_houseAt v_s_X3_houseAt ({ frames := 0, cells := 0, slots := 0, locals := 0 }) (va_Pc [.ref h0, .int p0] (fun U => U.heap.size = sz ∧ va_P (dC, dI) vwCl [(h0, .inr (3, [.ref h1, .int a0])), (h1, .inl (cI, 9, .inl g0))] U.heap ∧ va_K (dC, dI) vwCl (ty5 cB cI cJ cZ cP) U ∧ va_D (fun _ => True) [(h0, .inr (3, [.ref h1, .int a0])), (h1, .inl (cI, 9, .inl g0))])) (va_Qi (fun (r : Int32) (u9 : Unit) => rg (-1) (8) r) (fun u9 t => va_P (dC, dI) vwCl [(h0, .inr (3, [.ref h1, .int a0])), (h1, .inl (cI, 9, .inl g0))] t.heap ∧ va_D (va_A [(h0, .inr (3, [.ref h1, .int a0])), (h1, .inl (cI, 9, .inl g0))] sz) [(h0, .inr (3, [.ref h1, .int a0])), (h1, .inl (cI, 9, .inl g0))]) (va_A [(h0, .inr (3, [.ref h1, .int a0])), (h1, .inl (cI, 9, .inl g0))] sz)) 0 0 (va_A [(h0, .inr (3, [.ref h1, .int a0])), (h1, .inl (cI, 9, .inl g0))] sz) := by
  refine Met.ofW (cc := cX3_houseAt) (maxL := 2) (ret := (some .int)) (by decide) rfl ?_
  intro p e s m args below meth c s₁ B hml hv
  obtain ⟨rfl, hsz, hP, hK, hD0⟩ := hv
  have hx := B.exec
  have hb := B.bytes
  have hr := B.returns
  have hts := atoms_spec (ws := v_s_X3_houseAt) B.pre
  have hown : s.vm.findClass RX3 = some m.cls := findClass_of_methodNamed B.named
  have hlocks := B.notSynchronized
  have hinX3 : ∀ w ∈ wsX30, w ∈ v_s_X3_houseAt := fun _ h => List.mem_cons_of_mem _ (List.mem_append_right _ (List.mem_append_left _ h))
  subst hsz
  have hD := hD0.self (sz := s.heap.size)
  generalize hAe : va_A [(h0, .inr (3, [.ref h1, .int a0])), (h1, .inl (cI, 9, .inl g0))] s.heap.size = A at hD ⊢
  have hA : ∀ q : Nat, s.heap.size ≤ q → A q := fun q h => by rw [← hAe]; exact Or.inr h
  have hP : va_P (dC, dI) vwCl [(h0, .inr (3, [.ref h1, .int a0])), (h1, .inl (cI, 9, .inl g0))] s.heap := hP
  have hl := lv_entry ([.ref h0, .int p0]) (n := 2) (Nat.le_of_ble_eq_true rfl)
  rw [lg_entry_eq]
  generalize (lg_sl ([.ref h0, .int p0]) ++ List.replicate (2 - (lg_sl ([.ref h0, .int p0])).length) Slot.unset).toArray = ls at hl ⊢
  have hl : lv_has ls 2 [(0, .ref h0), (1, .int p0)] := hl
  refine W_gen (A := A) hP (fun H locs hP hS => ?_)
  refine lv_iload_n hx hb dX3_houseAt_0 rfl (lv_at hl 1 rfl) ?_
  refine lv_if_lt (tgt := 21) hx hb dX3_houseAt_1 (by decide) (fun c_1 => ?_) (fun c_1 => ?_)
  · skip
    have h_2 : rg (-2147483648) (-1) p0 := by have ha := (rg_any p0); have hb_ := (rg_k (x := 0) (c := 0) (by decide)); simp only [rg, fa_lt, fa_le, fa_eq, (by decide : (0 : Int32).toInt = 0)] at ha hb_ c_1; simp only [rg]; omega
    refine lv_iconst (v := (-1)) hx hb dX3_houseAt_21 (by decide) ?_
    have hP9 := hP.sub (ws' := [(h0, .inr (3, [.ref h1, .int a0])), (h1, .inl (cI, 9, .inl g0))]) [0, 1] rfl
    have hD9 := hD.sub (ws' := [(h0, .inr (3, [.ref h1, .int a0])), (h1, .inl (cI, 9, .inl g0))]) [0, 1] (by decide) rfl
    exact W.iret (v := (-1)) hx hb hr (fun t ht hW => ⟨⟨(-1), (), rfl, (rg_mono (rg_k (x := (-1)) (c := -1) (by decide)) (by decide) (by decide)), ⟨by rw [ht]; exact hP9, hD9⟩⟩, hS.F ht⟩) hS.2.2 dX3_houseAt_22
  · skip
    have h_3 : rg (0) (2147483647) p0 := by have ha := (rg_any p0); have hb_ := (rg_k (x := 0) (c := 0) (by decide)); simp only [rg, fa_lt, fa_le, fa_eq, (by decide : (0 : Int32).toInt = 0)] at ha hb_ c_1; simp only [rg]; omega
    refine lv_iload_n hx hb dX3_houseAt_4 rfl (lv_at hl 1 rfl) ?_
    refine lv_aload_n hx hb dX3_houseAt_5 rfl (lv_at hl 0 rfl) ?_
    refine va_get (D := (dC, dI)) (ci := 3) (v := .int a0) (C := RX3) (T := TX3) (N := 2) hx hb hts hinX3 hown hK hP 0 rfl rfl 1 (by decide) (hts (.fieldLink RX3 15 "MayRings$Order" "size" "I") (List.mem_of_getElem? (i := 1) rfl)) (fun _ h9 => h9) rfl dX3_houseAt_6 ?_
    refine lv_icmp_ge (tgt := 21) hx hb dX3_houseAt_9 (by decide) (fun c_4 => ?_) (fun c_4 => ?_)
    · skip
      refine lv_iconst (v := (-1)) hx hb dX3_houseAt_21 (by decide) ?_
      have hP9 := hP.sub (ws' := [(h0, .inr (3, [.ref h1, .int a0])), (h1, .inl (cI, 9, .inl g0))]) [0, 1] rfl
      have hD9 := hD.sub (ws' := [(h0, .inr (3, [.ref h1, .int a0])), (h1, .inl (cI, 9, .inl g0))]) [0, 1] (by decide) rfl
      exact W.iret (v := (-1)) hx hb hr (fun t ht hW => ⟨⟨(-1), (), rfl, (rg_mono (rg_k (x := (-1)) (c := -1) (by decide)) (by decide) (by decide)), ⟨by rw [ht]; exact hP9, hD9⟩⟩, hS.F ht⟩) hS.2.2 dX3_houseAt_22
    · skip
      have h_5 : rg (0) (8) p0 := by have ha := h_3; have hb_ := ha0; simp only [rg, fa_lt, fa_le, fa_eq] at ha hb_ c_4; simp only [rg]; omega
      have h_6 : rg (1) (9) a0 := by have ha := h_3; have hb_ := ha0; simp only [rg, fa_lt, fa_le, fa_eq] at ha hb_ c_4; simp only [rg]; omega
      refine lv_aload_n hx hb dX3_houseAt_12 rfl (lv_at hl 0 rfl) ?_
      refine va_get (D := (dC, dI)) (ci := 3) (v := .ref h1) (C := RX3) (T := TX3) (N := 2) hx hb hts hinX3 hown hK hP 0 rfl rfl 0 (by decide) (hts (.fieldLink RX3 9 "MayRings$Order" "houses" "[I") (List.mem_of_getElem? (i := 2) rfl)) (fun _ h9 => h9) rfl dX3_houseAt_13 ?_
      refine lv_iload_n hx hb dX3_houseAt_16 rfl (lv_at hl 1 rfl) ?_
      refine va_iald hx hb hK hP 1 1 rfl rfl (rg_in (n := 9) (rg_mono h_5 (by decide) (by decide))) dX3_houseAt_17 ?_
      refine lv_topi (fun x_7 ex_7 => ?_)
      have hx_7 : rg (0) (8) x_7 := by rw [ex_7]; exact rg_mono (hg0 _) (by decide) (by decide)
      refine lv_goto (tgt := 22) hx hb dX3_houseAt_18 (by decide) ?_
      have hP9 := hP.sub (ws' := [(h0, .inr (3, [.ref h1, .int a0])), (h1, .inl (cI, 9, .inl g0))]) [0, 1] rfl
      have hD9 := hD.sub (ws' := [(h0, .inr (3, [.ref h1, .int a0])), (h1, .inl (cI, 9, .inl g0))]) [0, 1] (by decide) rfl
      exact W.iret (v := x_7) hx hb hr (fun t ht hW => ⟨⟨x_7, (), rfl, (rg_mono hx_7 (by decide) (by decide)), ⟨by rw [ht]; exact hP9, hD9⟩⟩, hS.F ht⟩) hS.2.2 dX3_houseAt_22
def v_s_X4_ago : List Cond := Cond.code yX4_ago cX4_ago 4 (some .int) :: ([Cond.fieldLink RX4 9 "MayRings$Past" "met" "[I", Cond.fieldLink RX4 22 "MayRings$Past" "years" "I", Cond.methodLink RX4 55 Lib.Math.min.name, Cond.static Lib.Math.min.name, Cond.initialized RJ9, Cond.code Lib.Math.min.name Lib.Math.min.code 2 (some .int)] ++ (wsX40 ++ ([])))
theorem k_s_X4_ago : GoodIn lw_tbl v_s_X4_ago := gd_c (List.mem_of_getElem? (i := 798) (by decide +kernel)) rfl (goodIn_app (gd_c (List.mem_of_getElem? (i := 373) (by decide +kernel)) rfl (gd_c (List.mem_of_getElem? (i := 376) (by decide +kernel)) rfl (gd_c (List.mem_of_getElem? (i := 799) (by decide +kernel)) rfl (gd_c (List.mem_of_getElem? (i := 589) (by decide +kernel)) rfl (gd_c (List.mem_of_getElem? (i := 145) (by decide +kernel)) rfl (gd_c (List.mem_of_getElem? (i := 590) (by decide +kernel)) rfl (gd_nil))))))) (goodIn_app kfX4 (gd_nil)))
set_option maxHeartbeats 2000000 in
set_option maxRecDepth 100000 in
theorem c_s_X4_ago (l : Launch) (dC : Nat → ClassId) (dI : Nat → Nat → Nat) (cB cI cJ cZ cP : ClassId) (h0 : Nat) (h1 : Nat) (g0 : Nat → Int32) (h2 : Nat) (a1 : Int32) (a2 : Int32) (a3 : Int32) (a4 : Int32) (p0 : Int32) (hp0 : rg (0) (8) p0) (p1 : Int32) (hp1 : rg (0) (8) p1) (sz : Nat) : Met l yX4_ago v_s_X4_ago ({ frames := 1, cells := 0, slots := 0, locals := 30 }) (va_Pc [.ref h0, .int p0, .int p1] (fun U => U.heap.size = sz ∧ va_P (dC, dI) vwCl [(h0, .inr (4, [.ref h1, .ref h2, .int a1, .int a2, .int a3, .int a4])), (h1, .inl (cI, 81, .inl g0))] U.heap ∧ va_K (dC, dI) vwCl (ty5 cB cI cJ cZ cP) U ∧ va_D (fun _ => True) [(h0, .inr (4, [.ref h1, .ref h2, .int a1, .int a2, .int a3, .int a4])), (h1, .inl (cI, 81, .inl g0))])) (va_Qi (fun (r : Int32) (u9 : Unit) => rg (-2147483648) (99) r) (fun u9 t => va_P (dC, dI) vwCl [(h0, .inr (4, [.ref h1, .ref h2, .int a1, .int a2, .int a3, .int a4])), (h1, .inl (cI, 81, .inl g0))] t.heap ∧ va_D (va_A [(h0, .inr (4, [.ref h1, .ref h2, .int a1, .int a2, .int a3, .int a4])), (h1, .inl (cI, 81, .inl g0))] sz) [(h0, .inr (4, [.ref h1, .ref h2, .int a1, .int a2, .int a3, .int a4])), (h1, .inl (cI, 81, .inl g0))]) (va_A [(h0, .inr (4, [.ref h1, .ref h2, .int a1, .int a2, .int a3, .int a4])), (h1, .inl (cI, 81, .inl g0))] sz)) 0 0 (va_A [(h0, .inr (4, [.ref h1, .ref h2, .int a1, .int a2, .int a3, .int a4])), (h1, .inl (cI, 81, .inl g0))] sz) := by
  refine Met.ofW (cc := cX4_ago) (maxL := 4) (ret := (some .int)) (by decide) rfl ?_
  intro p e s m args below meth c s₁ B hml hv
  obtain ⟨rfl, hsz, hP, hK, hD0⟩ := hv
  have hx := B.exec
  have hb := B.bytes
  have hr := B.returns
  have hts := atoms_spec (ws := v_s_X4_ago) B.pre
  have hown : s.vm.findClass RX4 = some m.cls := findClass_of_methodNamed B.named
  have hlocks := B.notSynchronized
  have hinX4 : ∀ w ∈ wsX40, w ∈ v_s_X4_ago := fun _ h => List.mem_cons_of_mem _ (List.mem_append_right _ (List.mem_append_left _ h))
  subst hsz
  have hD := hD0.self (sz := s.heap.size)
  generalize hAe : va_A [(h0, .inr (4, [.ref h1, .ref h2, .int a1, .int a2, .int a3, .int a4])), (h1, .inl (cI, 81, .inl g0))] s.heap.size = A at hD ⊢
  have hA : ∀ q : Nat, s.heap.size ≤ q → A q := fun q h => by rw [← hAe]; exact Or.inr h
  have hP : va_P (dC, dI) vwCl [(h0, .inr (4, [.ref h1, .ref h2, .int a1, .int a2, .int a3, .int a4])), (h1, .inl (cI, 81, .inl g0))] s.heap := hP
  have hl := lv_entry ([.ref h0, .int p0, .int p1]) (n := 4) (Nat.le_of_ble_eq_true rfl)
  rw [lg_entry_eq]
  generalize (lg_sl ([.ref h0, .int p0, .int p1]) ++ List.replicate (4 - (lg_sl ([.ref h0, .int p0, .int p1])).length) Slot.unset).toArray = ls at hl ⊢
  have hl : lv_has ls 4 [(0, .ref h0), (1, .int p0), (2, .int p1)] := hl
  refine W_gen (A := A) hP (fun H locs hP hS => ?_)
  refine lv_aload_n hx hb dX4_ago_0 rfl (lv_at hl 0 rfl) ?_
  refine va_get (D := (dC, dI)) (ci := 4) (v := .ref h1) (C := RX4) (T := TX4) (N := 6) hx hb hts hinX4 hown hK hP 0 rfl rfl 0 (by decide) (hts (.fieldLink RX4 9 "MayRings$Past" "met" "[I") (List.mem_of_getElem? (i := 1) rfl)) (fun _ h9 => h9) rfl dX4_ago_1 ?_
  refine lv_iload_n hx hb dX4_ago_4 rfl (lv_at hl 1 rfl) ?_
  refine lv_bipush (v := 9) hx hb dX4_ago_5 (by decide) ?_
  refine lv_imul hx hb dX4_ago_7 ?_
  refine lv_topi (fun x_1 ex_1 => ?_)
  have hx_1 : rg (0) (72) x_1 := by rw [ex_1]; exact rg_mono (rg_mul hp0 (rg_k (x := 9) (c := 9) (by decide)) (by decide) (by decide) (by decide)) (by decide) (by decide)
  refine lv_iload_n hx hb dX4_ago_8 rfl (lv_at hl 2 rfl) ?_
  refine lv_iadd hx hb dX4_ago_9 ?_
  refine lv_topi (fun x_2 ex_2 => ?_)
  have hx_2 : rg (0) (80) x_2 := by rw [ex_2]; exact rg_mono (rg_add hx_1 hp1 (by decide) (by decide)) (by decide) (by decide)
  have qx_2 : x_2.toInt = x_1.toInt + p1.toInt := by rw [ex_2]; exact rg_addQ hx_1 hp1 (by decide) (by decide)
  refine va_iald hx hb hK hP 1 1 rfl rfl (rg_in (n := 81) (rg_mono hx_2 (by decide) (by decide))) dX4_ago_10 ?_
  refine lv_topi (fun x_3 ex_3 => ?_)
  refine lv_istore_n (lv' := [(3, .int x_3), (0, .ref h0), (1, .int p0), (2, .int p1)]) hx hb dX4_ago_11 rfl hl (by decide) rfl (fun ls hl => ?_)
  refine lv_iload_n hx hb dX4_ago_12 rfl (lv_at hl 0 rfl) ?_
  refine lv_if_ne (tgt := 21) hx hb dX4_ago_13 (by decide) (fun c_4 => ?_) (fun c_4 => ?_)
  · skip
    refine lv_bipush (v := 99) hx hb dX4_ago_21 (by decide) ?_
    refine lv_aload_n hx hb dX4_ago_23 rfl (lv_at hl 1 rfl) ?_
    refine va_get (D := (dC, dI)) (ci := 4) (v := .int a1) (C := RX4) (T := TX4) (N := 6) hx hb hts hinX4 hown hK hP 0 rfl rfl 2 (by decide) (hts (.fieldLink RX4 22 "MayRings$Past" "years" "I") (List.mem_of_getElem? (i := 2) rfl)) (fun _ h9 => h9) rfl dX4_ago_24 ?_
    refine lv_iload_n hx hb dX4_ago_27 rfl (lv_at hl 0 rfl) ?_
    refine lv_isub hx hb dX4_ago_28 ?_
    refine lv_topi (fun x_5 ex_5 => ?_)
    refine lv_iconst (v := 1) hx hb dX4_ago_29 (by decide) ?_
    refine lv_iadd hx hb dX4_ago_30 ?_
    refine lv_topi (fun x_6 ex_6 => ?_)
    refine va_mmin hx hb (by rw [hml]; exact hl.1.symm) hown (hts (.methodLink RX4 55 Lib.Math.min.name) (List.mem_of_getElem? (i := 3) rfl)) (hts (.static Lib.Math.min.name) (List.mem_of_getElem? (i := 4) rfl)) (hts (.initialized RJ9) (List.mem_of_getElem? (i := 5) rfl)) (hts (.code Lib.Math.min.name Lib.Math.min.code 2 (some .int)) (List.mem_of_getElem? (i := 6) rfl)) (Nat.le_of_ble_eq_true rfl) (Nat.le_of_ble_eq_true rfl) (Nat.le_of_ble_eq_true rfl) (Nat.le_of_ble_eq_true rfl) dX4_ago_31 ?_
    refine lv_topi (fun x_7 ex_7 => ?_)
    have hx_7 : rg (-2147483648) (99) x_7 := by rw [ex_7]; exact rg_mono (rg_min (rg_k (x := 99) (c := 99) (by decide)) (rg_any x_6)) (by decide) (by decide)
    clear ex_7
    have hP9 := hP.sub (ws' := [(h0, .inr (4, [.ref h1, .ref h2, .int a1, .int a2, .int a3, .int a4])), (h1, .inl (cI, 81, .inl g0))]) [0, 1] rfl
    have hD9 := hD.sub (ws' := [(h0, .inr (4, [.ref h1, .ref h2, .int a1, .int a2, .int a3, .int a4])), (h1, .inl (cI, 81, .inl g0))]) [0, 1] (by decide) rfl
    exact W.iret (v := x_7) hx hb hr (fun t ht hW => ⟨⟨x_7, (), rfl, (rg_mono hx_7 (by decide) (by decide)), ⟨by rw [ht]; exact hP9, hD9⟩⟩, hS.F ht⟩) hS.2.2 dX4_ago_34
  · skip
    have h_8 : rg (0) (0) x_3 := by have ha := (rg_any x_3); have hb_ := (rg_k (x := 0) (c := 0) (by decide)); simp only [rg, fa_lt, fa_le, fa_eq, (by decide : (0 : Int32).toInt = 0)] at ha hb_ c_4; simp only [rg]; omega
    refine lv_bipush (v := 99) hx hb dX4_ago_16 (by decide) ?_
    refine lv_goto (tgt := 34) hx hb dX4_ago_18 (by decide) ?_
    have hP9 := hP.sub (ws' := [(h0, .inr (4, [.ref h1, .ref h2, .int a1, .int a2, .int a3, .int a4])), (h1, .inl (cI, 81, .inl g0))]) [0, 1] rfl
    have hD9 := hD.sub (ws' := [(h0, .inr (4, [.ref h1, .ref h2, .int a1, .int a2, .int a3, .int a4])), (h1, .inl (cI, 81, .inl g0))]) [0, 1] (by decide) rfl
    exact W.iret (v := 99) hx hb hr (fun t ht hW => ⟨⟨99, (), rfl, (rg_mono (rg_k (x := 99) (c := 99) (by decide)) (by decide) (by decide)), ⟨by rw [ht]; exact hP9, hD9⟩⟩, hS.F ht⟩) hS.2.2 dX4_ago_34
def v_s_X4_clear : List Cond := Cond.code yX4_clear cX4_clear 1 none :: ([Cond.fieldLink RX4 9 "MayRings$Past" "met" "[I", Cond.methodLink RX4 36 yJ7_fill_53178, Cond.static yJ7_fill_53178, Cond.initialized RJ7, Cond.fieldLink RX4 18 "MayRings$Past" "standing" "LMayRings$Order;", Cond.fieldLink RX4 42 "MayRings$Order" "size" "I", Cond.fieldLink RX4 22 "MayRings$Past" "years" "I", Cond.fieldLink RX4 26 "MayRings$Past" "out" "I"] ++ (wsX30 ++ (wsX40 ++ (v_fill ++ ([])))))
theorem k_s_X4_clear : GoodIn lw_tbl v_s_X4_clear := gd_c (List.mem_of_getElem? (i := 784) (by decide +kernel)) rfl (goodIn_app (gd_c (List.mem_of_getElem? (i := 373) (by decide +kernel)) rfl (gd_c (List.mem_of_getElem? (i := 785) (by decide +kernel)) rfl (gd_c (List.mem_of_getElem? (i := 208) (by decide +kernel)) rfl (gd_c (List.mem_of_getElem? (i := 134) (by decide +kernel)) rfl (gd_c (List.mem_of_getElem? (i := 374) (by decide +kernel)) rfl (gd_c (List.mem_of_getElem? (i := 365) (by decide +kernel)) rfl (gd_c (List.mem_of_getElem? (i := 376) (by decide +kernel)) rfl (gd_c (List.mem_of_getElem? (i := 378) (by decide +kernel)) rfl (gd_nil))))))))) (goodIn_app kfX3 (goodIn_app kfX4 (goodIn_app k_fill (gd_nil)))))
set_option maxHeartbeats 2000000 in
set_option maxRecDepth 100000 in
theorem c_s_X4_clear (l : Launch) (dC : Nat → ClassId) (dI : Nat → Nat → Nat) (cB cI cJ cZ cP : ClassId) (h0 : Nat) (h1 : Nat) (g0 : Nat → Int32) (h2 : Nat) (h3 : Nat) (a0 : Int32) (a1 : Int32) (a2 : Int32) (a3 : Int32) (a4 : Int32) (sz : Nat) : Met l yX4_clear v_s_X4_clear ({ frames := 1, cells := 0, slots := 0, locals := 23 }) (va_Pc [.ref h0] (fun U => U.heap.size = sz ∧ va_P (dC, dI) vwCl [(h0, .inr (4, [.ref h1, .ref h2, .int a1, .int a2, .int a3, .int a4])), (h1, .inl (cI, 81, .inl g0)), (h2, .inr (3, [.ref h3, .int a0]))] U.heap ∧ va_K (dC, dI) vwCl (ty5 cB cI cJ cZ cP) U ∧ va_D (fun _ => True) [(h0, .inr (4, [.ref h1, .ref h2, .int a1, .int a2, .int a3, .int a4])), (h1, .inl (cI, 81, .inl g0)), (h2, .inr (3, [.ref h3, .int a0]))])) (va_Qv (fun _ : Unit => True) (fun _ t => ∃ (z0 : Nat → Int32), va_P (dC, dI) vwCl [(h0, .inr (4, [.ref h1, .ref h2, .int 0, .int 0, .int a3, .int a4])), (h1, .inl (cI, 81, .inl z0)), (h2, .inr (3, [.ref h3, .int 0]))] t.heap ∧ va_D (va_A [(h0, .inr (4, [.ref h1, .ref h2, .int a1, .int a2, .int a3, .int a4])), (h1, .inl (cI, 81, .inl g0)), (h2, .inr (3, [.ref h3, .int a0]))] sz) [(h0, .inr (4, [.ref h1, .ref h2, .int 0, .int 0, .int a3, .int a4])), (h1, .inl (cI, 81, .inl z0)), (h2, .inr (3, [.ref h3, .int 0]))]) (va_A [(h0, .inr (4, [.ref h1, .ref h2, .int a1, .int a2, .int a3, .int a4])), (h1, .inl (cI, 81, .inl g0)), (h2, .inr (3, [.ref h3, .int a0]))] sz)) 0 0 (va_A [(h0, .inr (4, [.ref h1, .ref h2, .int a1, .int a2, .int a3, .int a4])), (h1, .inl (cI, 81, .inl g0)), (h2, .inr (3, [.ref h3, .int a0]))] sz) := by
  refine Met.ofW (cc := cX4_clear) (maxL := 1) (ret := none) (by decide) rfl ?_
  intro p e s m args below meth c s₁ B hml hv
  obtain ⟨rfl, hsz, hP, hK, hD0⟩ := hv
  have hx := B.exec
  have hb := B.bytes
  have hr := B.returns
  have hts := atoms_spec (ws := v_s_X4_clear) B.pre
  have hown : s.vm.findClass RX4 = some m.cls := findClass_of_methodNamed B.named
  have hlocks := B.notSynchronized
  have hinX3 : ∀ w ∈ wsX30, w ∈ v_s_X4_clear := fun _ h => List.mem_cons_of_mem _ (List.mem_append_right _ (List.mem_append_left _ h))
  have hinX4 : ∀ w ∈ wsX40, w ∈ v_s_X4_clear := fun _ h => List.mem_cons_of_mem _ (List.mem_append_right _ (List.mem_append_right _ (List.mem_append_left _ h)))
  subst hsz
  have hD := hD0.self (sz := s.heap.size)
  generalize hAe : va_A [(h0, .inr (4, [.ref h1, .ref h2, .int a1, .int a2, .int a3, .int a4])), (h1, .inl (cI, 81, .inl g0)), (h2, .inr (3, [.ref h3, .int a0]))] s.heap.size = A at hD ⊢
  have hA : ∀ q : Nat, s.heap.size ≤ q → A q := fun q h => by rw [← hAe]; exact Or.inr h
  have hP : va_P (dC, dI) vwCl [(h0, .inr (4, [.ref h1, .ref h2, .int a1, .int a2, .int a3, .int a4])), (h1, .inl (cI, 81, .inl g0)), (h2, .inr (3, [.ref h3, .int a0]))] s.heap := hP
  have hl := lv_entry ([.ref h0]) (n := 1) (Nat.le_of_ble_eq_true rfl)
  rw [lg_entry_eq]
  generalize (lg_sl ([.ref h0]) ++ List.replicate (1 - (lg_sl ([.ref h0])).length) Slot.unset).toArray = ls at hl ⊢
  have hl : lv_has ls 1 [(0, .ref h0)] := hl
  refine W_gen (A := A) hP (fun H locs hP hS => ?_)
  refine lv_aload_n hx hb dX4_clear_0 rfl (lv_at hl 0 rfl) ?_
  refine va_get (D := (dC, dI)) (ci := 4) (v := .ref h1) (C := RX4) (T := TX4) (N := 6) hx hb hts hinX4 hown hK hP 0 rfl rfl 0 (by decide) (hts (.fieldLink RX4 9 "MayRings$Past" "met" "[I") (List.mem_of_getElem? (i := 1) rfl)) (fun _ h9 => h9) rfl dX4_clear_1 ?_
  refine lv_iconst (v := 0) hx hb dX4_clear_4 (by decide) ?_
  have hPc := hP.sub (ws' := [(h1, .inl (cI, 81, .inl g0))]) [1] rfl
  have hDc := hD.sub (ws' := [(h1, .inl (cI, 81, .inl g0))]) [1] (by decide) rfl
  have hFc := va_free (wc := [(h1, .inl (cI, 81, .inl g0))]) hD hS hA [1] rfl
  refine va_callv (va_runS (As := [.ref h1, .int 0]) (rest := []) ⟨hx, hb, hml, hown, hts⟩ (c_fill l dC dI cB cI cJ cZ cP h1 81 g0 0 (by decide) H.size) (va_cwS 2 hts (gd_S (List.mem_of_getElem? (i := 2) rfl) (List.mem_of_getElem? (i := 3) rfl) (List.mem_of_getElem? (i := 4) rfl) (gd_mono k_fill (fun _ h => List.mem_cons_of_mem _ (List.mem_append_right _ (List.mem_append_right _ (List.mem_append_right _ (List.mem_append_left _ h))))))) rfl rfl rfl (by decide +kernel) ⟨Nat.le_of_ble_eq_true rfl, Nat.le_of_ble_eq_true rfl⟩) ⟨fun a U g mk q => by obtain ⟨q0, q1, qP, qK, qD⟩ := q; exact ⟨q0, q1, qP, va_K.moved (u := U) (U := U.calling g mk a) (Vm.Alike.refl U.vm) qK, qD⟩, fun U hU hW => ⟨rfl, by rw [hU], by rw [hU]; exact hPc, va_K.moved hW.alike hK, hDc.weaken (fun _ _ _ _ => trivial)⟩⟩ rfl rfl hl.1 rfl (lv_room (Nat.le_of_ble_eq_true rfl)) dX4_clear_5 ⟨Nat.le_of_ble_eq_true rfl, Nat.le_of_ble_eq_true rfl⟩) hS (fun q _ h => hFc q h) hFc (fun u t H1 locs ht hvm hw hB hz1 hk1 hS => ?_)
  obtain ⟨f_2, ef_2, hP1, hD1⟩ := hB
  rw [ht] at hP1
  obtain ⟨hP, hD⟩ := va_join (wr := [(h0, .inr (4, [.ref h1, .ref h2, .int a1, .int a2, .int a3, .int a4])), (h2, .inr (3, [.ref h3, .int a0]))]) (w1 := [(h1, .inl (cI, 81, .inl f_2))]) hP hD [1] [0, 2] rfl rfl (by decide) (by decide) hk1 hFc hP1 hD1
  generalize H1 = H at hP hS ⊢
  clear ef_2
  have hP : va_P (dC, dI) vwCl [(h0, .inr (4, [.ref h1, .ref h2, .int a1, .int a2, .int a3, .int a4])), (h2, .inr (3, [.ref h3, .int a0])), (h1, .inl (cI, 81, .inl f_2))] H := hP
  have hD : va_D A [(h0, .inr (4, [.ref h1, .ref h2, .int a1, .int a2, .int a3, .int a4])), (h2, .inr (3, [.ref h3, .int a0])), (h1, .inl (cI, 81, .inl f_2))] := hD
  refine lv_aload_n hx hb dX4_clear_8 rfl (lv_at hl 0 rfl) ?_
  refine va_get (D := (dC, dI)) (ci := 4) (v := .ref h2) (C := RX4) (T := TX4) (N := 6) hx hb hts hinX4 hown hK hP 0 rfl rfl 1 (by decide) (hts (.fieldLink RX4 18 "MayRings$Past" "standing" "LMayRings$Order;") (List.mem_of_getElem? (i := 5) rfl)) (fun _ h9 => h9) rfl dX4_clear_9 ?_
  refine lv_iconst (v := 0) hx hb dX4_clear_12 (by decide) ?_
  refine va_put (D := (dC, dI)) (ci := 3) (v := .int 0) (ty := .int) (C := RX3) (T := TX3) (N := 2) hx hb hts hinX3 tyX3 tyX3_ok nmX3 hown hK hP hD hS 1 rfl rfl 1 (by decide) (hts (.fieldLink RX4 42 "MayRings$Order" "size" "I") (List.mem_of_getElem? (i := 6) rfl)) (fun _ h9 => h9) rfl (by decide +kernel) (rfl) (rfl) (Nat.le_of_ble_eq_true rfl) dX4_clear_13 (fun H locs hP hD hS => ?_)
  have hP : va_P (dC, dI) vwCl [(h0, .inr (4, [.ref h1, .ref h2, .int a1, .int a2, .int a3, .int a4])), (h2, .inr (3, [.ref h3, .int 0])), (h1, .inl (cI, 81, .inl f_2))] H := hP
  have hD : va_D A [(h0, .inr (4, [.ref h1, .ref h2, .int a1, .int a2, .int a3, .int a4])), (h2, .inr (3, [.ref h3, .int 0])), (h1, .inl (cI, 81, .inl f_2))] := hD
  refine lv_aload_n hx hb dX4_clear_16 rfl (lv_at hl 0 rfl) ?_
  refine lv_iconst (v := 0) hx hb dX4_clear_17 (by decide) ?_
  refine va_put (D := (dC, dI)) (ci := 4) (v := .int 0) (ty := .int) (C := RX4) (T := TX4) (N := 6) hx hb hts hinX4 tyX4 tyX4_ok nmX4 hown hK hP hD hS 0 rfl rfl 2 (by decide) (hts (.fieldLink RX4 22 "MayRings$Past" "years" "I") (List.mem_of_getElem? (i := 7) rfl)) (fun _ h9 => h9) rfl (by decide +kernel) (rfl) (rfl) (Nat.le_of_ble_eq_true rfl) dX4_clear_18 (fun H locs hP hD hS => ?_)
  have hP : va_P (dC, dI) vwCl [(h0, .inr (4, [.ref h1, .ref h2, .int 0, .int a2, .int a3, .int a4])), (h2, .inr (3, [.ref h3, .int 0])), (h1, .inl (cI, 81, .inl f_2))] H := hP
  have hD : va_D A [(h0, .inr (4, [.ref h1, .ref h2, .int 0, .int a2, .int a3, .int a4])), (h2, .inr (3, [.ref h3, .int 0])), (h1, .inl (cI, 81, .inl f_2))] := hD
  refine lv_aload_n hx hb dX4_clear_21 rfl (lv_at hl 0 rfl) ?_
  refine lv_iconst (v := 0) hx hb dX4_clear_22 (by decide) ?_
  refine va_put (D := (dC, dI)) (ci := 4) (v := .int 0) (ty := .int) (C := RX4) (T := TX4) (N := 6) hx hb hts hinX4 tyX4 tyX4_ok nmX4 hown hK hP hD hS 0 rfl rfl 3 (by decide) (hts (.fieldLink RX4 26 "MayRings$Past" "out" "I") (List.mem_of_getElem? (i := 8) rfl)) (fun _ h9 => h9) rfl (by decide +kernel) (rfl) (rfl) (Nat.le_of_ble_eq_true rfl) dX4_clear_23 (fun H locs hP hD hS => ?_)
  have hP : va_P (dC, dI) vwCl [(h0, .inr (4, [.ref h1, .ref h2, .int 0, .int 0, .int a3, .int a4])), (h2, .inr (3, [.ref h3, .int 0])), (h1, .inl (cI, 81, .inl f_2))] H := hP
  have hD : va_D A [(h0, .inr (4, [.ref h1, .ref h2, .int 0, .int 0, .int a3, .int a4])), (h2, .inr (3, [.ref h3, .int 0])), (h1, .inl (cI, 81, .inl f_2))] := hD
  have hP9 := hP.sub (ws' := [(h0, .inr (4, [.ref h1, .ref h2, .int 0, .int 0, .int a3, .int a4])), (h1, .inl (cI, 81, .inl f_2)), (h2, .inr (3, [.ref h3, .int 0]))]) [0, 2, 1] rfl
  have hD9 := hD.sub (ws' := [(h0, .inr (4, [.ref h1, .ref h2, .int 0, .int 0, .int a3, .int a4])), (h1, .inl (cI, 81, .inl f_2)), (h2, .inr (3, [.ref h3, .int 0]))]) [0, 2, 1] (by decide) rfl
  exact W.vret hx hb hr (fun t ht hW => ⟨⟨(), rfl, trivial, ⟨f_2, by rw [ht]; exact hP9, hD9⟩⟩, hS.F ht⟩) hS.2.2 dX4_clear_26
def v_s_X4_copy : List Cond := Cond.code yX4_copy cX4_copy 2 none :: ([Cond.fieldLink RX4 9 "MayRings$Past" "met" "[I", Cond.methodLink RX4 45 arraycopyName, Cond.native arraycopyName, Cond.static arraycopyName, Cond.initialized RJ10, Cond.fieldLink RX4 18 "MayRings$Past" "standing" "LMayRings$Order;", Cond.methodLink RX4 51 yX3_copy, Cond.instanceMethod yX3_copy, Cond.selects RX3 yX3_copy yX3_copy, Cond.initialized RX3, Cond.fieldLink RX4 22 "MayRings$Past" "years" "I", Cond.fieldLink RX4 26 "MayRings$Past" "out" "I", Cond.fieldLink RX4 29 "MayRings$Past" "w" "I"] ++ (wsX40 ++ (v_s_X3_copy ++ ([]))))
theorem k_s_X4_copy : GoodIn lw_tbl v_s_X4_copy := gd_c (List.mem_of_getElem? (i := 1206) (by decide +kernel)) rfl (goodIn_app (gd_c (List.mem_of_getElem? (i := 373) (by decide +kernel)) rfl (gd_c (List.mem_of_getElem? (i := 1207) (by decide +kernel)) rfl (gd_c (List.mem_of_getElem? (i := 1129) (by decide +kernel)) rfl (gd_c (List.mem_of_getElem? (i := 1128) (by decide +kernel)) rfl (gd_c (List.mem_of_getElem? (i := 148) (by decide +kernel)) rfl (gd_c (List.mem_of_getElem? (i := 374) (by decide +kernel)) rfl (gd_c (List.mem_of_getElem? (i := 1208) (by decide +kernel)) rfl (gd_c (List.mem_of_getElem? (i := 1124) (by decide +kernel)) rfl (gd_c (List.mem_of_getElem? (i := 1125) (by decide +kernel)) rfl (gd_c (List.mem_of_getElem? (i := 140) (by decide +kernel)) rfl (gd_c (List.mem_of_getElem? (i := 376) (by decide +kernel)) rfl (gd_c (List.mem_of_getElem? (i := 378) (by decide +kernel)) rfl (gd_c (List.mem_of_getElem? (i := 380) (by decide +kernel)) rfl (gd_nil)))))))))))))) (goodIn_app kfX4 (goodIn_app k_s_X3_copy (gd_nil))))
set_option maxHeartbeats 2000000 in
set_option maxRecDepth 100000 in
theorem c_s_X4_copy (l : Launch) (dC : Nat → ClassId) (dI : Nat → Nat → Nat) (cB cI cJ cZ cP : ClassId) (h0 : Nat) (h1 : Nat) (g0 : Nat → Int32) (h2 : Nat) (h3 : Nat) (g1 : Nat → Int32) (hg1 : rgA (0) (8) g1) (a0 : Int32) (a1 : Int32) (a2 : Int32) (a3 : Int32) (a4 : Int32) (h4 : Nat) (h5 : Nat) (g2 : Nat → Int32) (h6 : Nat) (h7 : Nat) (g3 : Nat → Int32) (hg3 : rgA (0) (8) g3) (a5 : Int32) (a6 : Int32) (a7 : Int32) (a8 : Int32) (a9 : Int32) (sz : Nat) : Met l yX4_copy v_s_X4_copy ({ frames := 2, cells := 0, slots := 0, locals := 101 }) (va_Pc [.ref h0, .ref h4] (fun U => U.heap.size = sz ∧ va_P (dC, dI) vwCl [(h0, .inr (4, [.ref h1, .ref h2, .int a1, .int a2, .int a3, .int a4])), (h1, .inl (cI, 81, .inl g0)), (h2, .inr (3, [.ref h3, .int a0])), (h3, .inl (cI, 9, .inl g1)), (h4, .inr (4, [.ref h5, .ref h6, .int a6, .int a7, .int a8, .int a9])), (h5, .inl (cI, 81, .inl g2)), (h6, .inr (3, [.ref h7, .int a5])), (h7, .inl (cI, 9, .inl g3))] U.heap ∧ va_K (dC, dI) vwCl (ty5 cB cI cJ cZ cP) U ∧ va_D (fun _ => True) [(h0, .inr (4, [.ref h1, .ref h2, .int a1, .int a2, .int a3, .int a4])), (h1, .inl (cI, 81, .inl g0)), (h2, .inr (3, [.ref h3, .int a0])), (h3, .inl (cI, 9, .inl g1)), (h4, .inr (4, [.ref h5, .ref h6, .int a6, .int a7, .int a8, .int a9])), (h5, .inl (cI, 81, .inl g2)), (h6, .inr (3, [.ref h7, .int a5])), (h7, .inl (cI, 9, .inl g3))])) (va_Qv (fun _ : Unit => True) (fun _ t => ∃ (z0 : Nat → Int32) (z1 : Nat → Int32), rgA (0) (8) z1 ∧ va_P (dC, dI) vwCl [(h0, .inr (4, [.ref h1, .ref h2, .int a6, .int a7, .int a8, .int a4])), (h1, .inl (cI, 81, .inl z0)), (h2, .inr (3, [.ref h3, .int a5])), (h3, .inl (cI, 9, .inl z1)), (h4, .inr (4, [.ref h5, .ref h6, .int a6, .int a7, .int a8, .int a9])), (h5, .inl (cI, 81, .inl g2)), (h6, .inr (3, [.ref h7, .int a5])), (h7, .inl (cI, 9, .inl g3))] t.heap ∧ va_D (va_A [(h0, .inr (4, [.ref h1, .ref h2, .int a1, .int a2, .int a3, .int a4])), (h1, .inl (cI, 81, .inl g0)), (h2, .inr (3, [.ref h3, .int a0])), (h3, .inl (cI, 9, .inl g1)), (h4, .inr (4, [.ref h5, .ref h6, .int a6, .int a7, .int a8, .int a9])), (h5, .inl (cI, 81, .inl g2)), (h6, .inr (3, [.ref h7, .int a5])), (h7, .inl (cI, 9, .inl g3))] sz) [(h0, .inr (4, [.ref h1, .ref h2, .int a6, .int a7, .int a8, .int a4])), (h1, .inl (cI, 81, .inl z0)), (h2, .inr (3, [.ref h3, .int a5])), (h3, .inl (cI, 9, .inl z1)), (h4, .inr (4, [.ref h5, .ref h6, .int a6, .int a7, .int a8, .int a9])), (h5, .inl (cI, 81, .inl g2)), (h6, .inr (3, [.ref h7, .int a5])), (h7, .inl (cI, 9, .inl g3))]) (va_A [(h0, .inr (4, [.ref h1, .ref h2, .int a1, .int a2, .int a3, .int a4])), (h1, .inl (cI, 81, .inl g0)), (h2, .inr (3, [.ref h3, .int a0])), (h3, .inl (cI, 9, .inl g1)), (h4, .inr (4, [.ref h5, .ref h6, .int a6, .int a7, .int a8, .int a9])), (h5, .inl (cI, 81, .inl g2)), (h6, .inr (3, [.ref h7, .int a5])), (h7, .inl (cI, 9, .inl g3))] sz)) 0 0 (va_A [(h0, .inr (4, [.ref h1, .ref h2, .int a1, .int a2, .int a3, .int a4])), (h1, .inl (cI, 81, .inl g0)), (h2, .inr (3, [.ref h3, .int a0])), (h3, .inl (cI, 9, .inl g1)), (h4, .inr (4, [.ref h5, .ref h6, .int a6, .int a7, .int a8, .int a9])), (h5, .inl (cI, 81, .inl g2)), (h6, .inr (3, [.ref h7, .int a5])), (h7, .inl (cI, 9, .inl g3))] sz) := by
  refine Met.ofW (cc := cX4_copy) (maxL := 2) (ret := none) (by decide) rfl ?_
  intro p e s m args below meth c s₁ B hml hv
  obtain ⟨rfl, hsz, hP, hK, hD0⟩ := hv
  have hx := B.exec
  have hb := B.bytes
  have hr := B.returns
  have hts := atoms_spec (ws := v_s_X4_copy) B.pre
  have hown : s.vm.findClass RX4 = some m.cls := findClass_of_methodNamed B.named
  have hlocks := B.notSynchronized
  have hinX4 : ∀ w ∈ wsX40, w ∈ v_s_X4_copy := fun _ h => List.mem_cons_of_mem _ (List.mem_append_right _ (List.mem_append_left _ h))
  subst hsz
  have hD := hD0.self (sz := s.heap.size)
  generalize hAe : va_A [(h0, .inr (4, [.ref h1, .ref h2, .int a1, .int a2, .int a3, .int a4])), (h1, .inl (cI, 81, .inl g0)), (h2, .inr (3, [.ref h3, .int a0])), (h3, .inl (cI, 9, .inl g1)), (h4, .inr (4, [.ref h5, .ref h6, .int a6, .int a7, .int a8, .int a9])), (h5, .inl (cI, 81, .inl g2)), (h6, .inr (3, [.ref h7, .int a5])), (h7, .inl (cI, 9, .inl g3))] s.heap.size = A at hD ⊢
  have hA : ∀ q : Nat, s.heap.size ≤ q → A q := fun q h => by rw [← hAe]; exact Or.inr h
  have hP : va_P (dC, dI) vwCl [(h0, .inr (4, [.ref h1, .ref h2, .int a1, .int a2, .int a3, .int a4])), (h1, .inl (cI, 81, .inl g0)), (h2, .inr (3, [.ref h3, .int a0])), (h3, .inl (cI, 9, .inl g1)), (h4, .inr (4, [.ref h5, .ref h6, .int a6, .int a7, .int a8, .int a9])), (h5, .inl (cI, 81, .inl g2)), (h6, .inr (3, [.ref h7, .int a5])), (h7, .inl (cI, 9, .inl g3))] s.heap := hP
  have hl := lv_entry ([.ref h0, .ref h4]) (n := 2) (Nat.le_of_ble_eq_true rfl)
  rw [lg_entry_eq]
  generalize (lg_sl ([.ref h0, .ref h4]) ++ List.replicate (2 - (lg_sl ([.ref h0, .ref h4])).length) Slot.unset).toArray = ls at hl ⊢
  have hl : lv_has ls 2 [(0, .ref h0), (1, .ref h4)] := hl
  refine W_gen (A := A) hP (fun H locs hP hS => ?_)
  refine lv_aload_n hx hb dX4_copy_0 rfl (lv_at hl 1 rfl) ?_
  refine va_get (D := (dC, dI)) (ci := 4) (v := .ref h5) (C := RX4) (T := TX4) (N := 6) hx hb hts hinX4 hown hK hP 4 rfl rfl 0 (by decide) (hts (.fieldLink RX4 9 "MayRings$Past" "met" "[I") (List.mem_of_getElem? (i := 1) rfl)) (fun _ h9 => h9) rfl dX4_copy_1 ?_
  refine lv_iconst (v := 0) hx hb dX4_copy_4 (by decide) ?_
  refine lv_aload_n hx hb dX4_copy_5 rfl (lv_at hl 0 rfl) ?_
  refine va_get (D := (dC, dI)) (ci := 4) (v := .ref h1) (C := RX4) (T := TX4) (N := 6) hx hb hts hinX4 hown hK hP 0 rfl rfl 0 (by decide) (hts (.fieldLink RX4 9 "MayRings$Past" "met" "[I") (List.mem_of_getElem? (i := 1) rfl)) (fun _ h9 => h9) rfl dX4_copy_6 ?_
  refine lv_iconst (v := 0) hx hb dX4_copy_9 (by decide) ?_
  refine lv_bipush (v := 81) hx hb dX4_copy_10 (by decide) ?_
  refine va_copyi hx hb (by rw [hml]; exact hl.1.symm) hown (hts (.methodLink RX4 45 arraycopyName) (List.mem_of_getElem? (i := 2) rfl)) (hts (.native arraycopyName) (List.mem_of_getElem? (i := 3) rfl)) (hts (.static arraycopyName) (List.mem_of_getElem? (i := 4) rfl)) (hts (.initialized RJ10) (List.mem_of_getElem? (i := 5) rfl)) hK hP hD hS 5 1 1 1 rfl rfl rfl rfl rfl (by decide) (by decide) (by decide) (by decide) (by decide) (fun _ _ => rfl) (Nat.le_of_ble_eq_true rfl) (Nat.le_of_ble_eq_true rfl) dX4_copy_12 (fun H locs hP hD hS => ?_)
  obtain ⟨f_1, ef_1⟩ : ∃ f : Nat → Int32, f = va_cpy g2 g0 (0 : Int32).toNatClampNeg (0 : Int32).toNatClampNeg (81 : Int32).toNatClampNeg := ⟨_, rfl⟩
  rw [← ef_1] at hP hD
  clear ef_1
  have hP : va_P (dC, dI) vwCl [(h0, .inr (4, [.ref h1, .ref h2, .int a1, .int a2, .int a3, .int a4])), (h1, .inl (cI, 81, .inl f_1)), (h2, .inr (3, [.ref h3, .int a0])), (h3, .inl (cI, 9, .inl g1)), (h4, .inr (4, [.ref h5, .ref h6, .int a6, .int a7, .int a8, .int a9])), (h5, .inl (cI, 81, .inl g2)), (h6, .inr (3, [.ref h7, .int a5])), (h7, .inl (cI, 9, .inl g3))] H := hP
  have hD : va_D A [(h0, .inr (4, [.ref h1, .ref h2, .int a1, .int a2, .int a3, .int a4])), (h1, .inl (cI, 81, .inl f_1)), (h2, .inr (3, [.ref h3, .int a0])), (h3, .inl (cI, 9, .inl g1)), (h4, .inr (4, [.ref h5, .ref h6, .int a6, .int a7, .int a8, .int a9])), (h5, .inl (cI, 81, .inl g2)), (h6, .inr (3, [.ref h7, .int a5])), (h7, .inl (cI, 9, .inl g3))] := hD
  refine lv_aload_n hx hb dX4_copy_15 rfl (lv_at hl 0 rfl) ?_
  refine va_get (D := (dC, dI)) (ci := 4) (v := .ref h2) (C := RX4) (T := TX4) (N := 6) hx hb hts hinX4 hown hK hP 0 rfl rfl 1 (by decide) (hts (.fieldLink RX4 18 "MayRings$Past" "standing" "LMayRings$Order;") (List.mem_of_getElem? (i := 6) rfl)) (fun _ h9 => h9) rfl dX4_copy_16 ?_
  refine lv_aload_n hx hb dX4_copy_19 rfl (lv_at hl 1 rfl) ?_
  refine va_get (D := (dC, dI)) (ci := 4) (v := .ref h6) (C := RX4) (T := TX4) (N := 6) hx hb hts hinX4 hown hK hP 4 rfl rfl 1 (by decide) (hts (.fieldLink RX4 18 "MayRings$Past" "standing" "LMayRings$Order;") (List.mem_of_getElem? (i := 6) rfl)) (fun _ h9 => h9) rfl dX4_copy_20 ?_
  have hPc := hP.sub (ws' := [(h2, .inr (3, [.ref h3, .int a0])), (h3, .inl (cI, 9, .inl g1)), (h6, .inr (3, [.ref h7, .int a5])), (h7, .inl (cI, 9, .inl g3))]) [2, 3, 6, 7] rfl
  have hDc := hD.sub (ws' := [(h2, .inr (3, [.ref h3, .int a0])), (h3, .inl (cI, 9, .inl g1)), (h6, .inr (3, [.ref h7, .int a5])), (h7, .inl (cI, 9, .inl g3))]) [2, 3, 6, 7] (by decide) rfl
  have hFc := va_free (wc := [(h2, .inr (3, [.ref h3, .int a0])), (h3, .inl (cI, 9, .inl g1)), (h6, .inr (3, [.ref h7, .int a5])), (h7, .inl (cI, 9, .inl g3))]) hD hS hA [2, 3, 6, 7] rfl
  refine va_callv (va_runV (As := [.ref h6]) (rest := []) ⟨hx, hb, hml, hown, hts⟩ (c_s_X3_copy l dC dI cB cI cJ cZ cP h2 h3 g1 hg1 a0 h6 h7 g3 hg3 a5 H.size) (cwV 1 hts (gd_V (List.mem_of_getElem? (i := 7) rfl) (List.mem_of_getElem? (i := 8) rfl) (List.mem_of_getElem? (i := 9) rfl) (List.mem_of_getElem? (i := 10) rfl) (gd_mono k_s_X3_copy (fun _ h => List.mem_cons_of_mem _ (List.mem_append_right _ (List.mem_append_right _ (List.mem_append_left _ h)))))) rfl rfl rfl (by decide +kernel) ⟨Nat.le_of_ble_eq_true rfl, Nat.le_of_ble_eq_true rfl⟩) ⟨fun a U g mk q => by obtain ⟨q0, q1, qP, qK, qD⟩ := q; exact ⟨q0, q1, qP, va_K.moved (u := U) (U := U.calling g mk a) (Vm.Alike.refl U.vm) qK, qD⟩, va_recv hK hPc (ci := 3) (q0 := 0) rfl rfl, fun U hU hW => ⟨rfl, by rw [hU], by rw [hU]; exact hPc, va_K.moved hW.alike hK, hDc.weaken (fun _ _ _ _ => trivial)⟩⟩ rfl rfl hl.1 rfl (lv_room (Nat.le_of_ble_eq_true rfl)) dX4_copy_23 ⟨Nat.le_of_ble_eq_true rfl, Nat.le_of_ble_eq_true rfl⟩) hS (fun q _ h => hFc q h) hFc (fun u t H1 locs ht hvm hw hB hz1 hk1 hS => ?_)
  obtain ⟨f_3, hf_3, hP1, hD1⟩ := hB
  rw [ht] at hP1
  obtain ⟨hP, hD⟩ := va_join (wr := [(h0, .inr (4, [.ref h1, .ref h2, .int a1, .int a2, .int a3, .int a4])), (h1, .inl (cI, 81, .inl f_1)), (h4, .inr (4, [.ref h5, .ref h6, .int a6, .int a7, .int a8, .int a9])), (h5, .inl (cI, 81, .inl g2))]) (w1 := [(h2, .inr (3, [.ref h3, .int a5])), (h3, .inl (cI, 9, .inl f_3)), (h6, .inr (3, [.ref h7, .int a5])), (h7, .inl (cI, 9, .inl g3))]) hP hD [2, 3, 6, 7] [0, 1, 4, 5] rfl rfl (by decide) (by decide) hk1 hFc hP1 hD1
  generalize H1 = H at hP hS ⊢
  have hP : va_P (dC, dI) vwCl [(h0, .inr (4, [.ref h1, .ref h2, .int a1, .int a2, .int a3, .int a4])), (h1, .inl (cI, 81, .inl f_1)), (h4, .inr (4, [.ref h5, .ref h6, .int a6, .int a7, .int a8, .int a9])), (h5, .inl (cI, 81, .inl g2)), (h2, .inr (3, [.ref h3, .int a5])), (h3, .inl (cI, 9, .inl f_3)), (h6, .inr (3, [.ref h7, .int a5])), (h7, .inl (cI, 9, .inl g3))] H := hP
  have hD : va_D A [(h0, .inr (4, [.ref h1, .ref h2, .int a1, .int a2, .int a3, .int a4])), (h1, .inl (cI, 81, .inl f_1)), (h4, .inr (4, [.ref h5, .ref h6, .int a6, .int a7, .int a8, .int a9])), (h5, .inl (cI, 81, .inl g2)), (h2, .inr (3, [.ref h3, .int a5])), (h3, .inl (cI, 9, .inl f_3)), (h6, .inr (3, [.ref h7, .int a5])), (h7, .inl (cI, 9, .inl g3))] := hD
  refine lv_aload_n hx hb dX4_copy_26 rfl (lv_at hl 0 rfl) ?_
  refine lv_aload_n hx hb dX4_copy_27 rfl (lv_at hl 1 rfl) ?_
  refine va_get (D := (dC, dI)) (ci := 4) (v := .int a6) (C := RX4) (T := TX4) (N := 6) hx hb hts hinX4 hown hK hP 2 rfl rfl 2 (by decide) (hts (.fieldLink RX4 22 "MayRings$Past" "years" "I") (List.mem_of_getElem? (i := 11) rfl)) (fun _ h9 => h9) rfl dX4_copy_28 ?_
  refine va_put (D := (dC, dI)) (ci := 4) (v := .int a6) (ty := .int) (C := RX4) (T := TX4) (N := 6) hx hb hts hinX4 tyX4 tyX4_ok nmX4 hown hK hP hD hS 0 rfl rfl 2 (by decide) (hts (.fieldLink RX4 22 "MayRings$Past" "years" "I") (List.mem_of_getElem? (i := 11) rfl)) (fun _ h9 => h9) rfl (by decide +kernel) (rfl) (rfl) (Nat.le_of_ble_eq_true rfl) dX4_copy_31 (fun H locs hP hD hS => ?_)
  have hP : va_P (dC, dI) vwCl [(h0, .inr (4, [.ref h1, .ref h2, .int a6, .int a2, .int a3, .int a4])), (h1, .inl (cI, 81, .inl f_1)), (h4, .inr (4, [.ref h5, .ref h6, .int a6, .int a7, .int a8, .int a9])), (h5, .inl (cI, 81, .inl g2)), (h2, .inr (3, [.ref h3, .int a5])), (h3, .inl (cI, 9, .inl f_3)), (h6, .inr (3, [.ref h7, .int a5])), (h7, .inl (cI, 9, .inl g3))] H := hP
  have hD : va_D A [(h0, .inr (4, [.ref h1, .ref h2, .int a6, .int a2, .int a3, .int a4])), (h1, .inl (cI, 81, .inl f_1)), (h4, .inr (4, [.ref h5, .ref h6, .int a6, .int a7, .int a8, .int a9])), (h5, .inl (cI, 81, .inl g2)), (h2, .inr (3, [.ref h3, .int a5])), (h3, .inl (cI, 9, .inl f_3)), (h6, .inr (3, [.ref h7, .int a5])), (h7, .inl (cI, 9, .inl g3))] := hD
  refine lv_aload_n hx hb dX4_copy_34 rfl (lv_at hl 0 rfl) ?_
  refine lv_aload_n hx hb dX4_copy_35 rfl (lv_at hl 1 rfl) ?_
  refine va_get (D := (dC, dI)) (ci := 4) (v := .int a7) (C := RX4) (T := TX4) (N := 6) hx hb hts hinX4 hown hK hP 2 rfl rfl 3 (by decide) (hts (.fieldLink RX4 26 "MayRings$Past" "out" "I") (List.mem_of_getElem? (i := 12) rfl)) (fun _ h9 => h9) rfl dX4_copy_36 ?_
  refine va_put (D := (dC, dI)) (ci := 4) (v := .int a7) (ty := .int) (C := RX4) (T := TX4) (N := 6) hx hb hts hinX4 tyX4 tyX4_ok nmX4 hown hK hP hD hS 0 rfl rfl 3 (by decide) (hts (.fieldLink RX4 26 "MayRings$Past" "out" "I") (List.mem_of_getElem? (i := 12) rfl)) (fun _ h9 => h9) rfl (by decide +kernel) (rfl) (rfl) (Nat.le_of_ble_eq_true rfl) dX4_copy_39 (fun H locs hP hD hS => ?_)
  have hP : va_P (dC, dI) vwCl [(h0, .inr (4, [.ref h1, .ref h2, .int a6, .int a7, .int a3, .int a4])), (h1, .inl (cI, 81, .inl f_1)), (h4, .inr (4, [.ref h5, .ref h6, .int a6, .int a7, .int a8, .int a9])), (h5, .inl (cI, 81, .inl g2)), (h2, .inr (3, [.ref h3, .int a5])), (h3, .inl (cI, 9, .inl f_3)), (h6, .inr (3, [.ref h7, .int a5])), (h7, .inl (cI, 9, .inl g3))] H := hP
  have hD : va_D A [(h0, .inr (4, [.ref h1, .ref h2, .int a6, .int a7, .int a3, .int a4])), (h1, .inl (cI, 81, .inl f_1)), (h4, .inr (4, [.ref h5, .ref h6, .int a6, .int a7, .int a8, .int a9])), (h5, .inl (cI, 81, .inl g2)), (h2, .inr (3, [.ref h3, .int a5])), (h3, .inl (cI, 9, .inl f_3)), (h6, .inr (3, [.ref h7, .int a5])), (h7, .inl (cI, 9, .inl g3))] := hD
  refine lv_aload_n hx hb dX4_copy_42 rfl (lv_at hl 0 rfl) ?_
  refine lv_aload_n hx hb dX4_copy_43 rfl (lv_at hl 1 rfl) ?_
  refine va_get (D := (dC, dI)) (ci := 4) (v := .int a8) (C := RX4) (T := TX4) (N := 6) hx hb hts hinX4 hown hK hP 2 rfl rfl 4 (by decide) (hts (.fieldLink RX4 29 "MayRings$Past" "w" "I") (List.mem_of_getElem? (i := 13) rfl)) (fun _ h9 => h9) rfl dX4_copy_44 ?_
  refine va_put (D := (dC, dI)) (ci := 4) (v := .int a8) (ty := .int) (C := RX4) (T := TX4) (N := 6) hx hb hts hinX4 tyX4 tyX4_ok nmX4 hown hK hP hD hS 0 rfl rfl 4 (by decide) (hts (.fieldLink RX4 29 "MayRings$Past" "w" "I") (List.mem_of_getElem? (i := 13) rfl)) (fun _ h9 => h9) rfl (by decide +kernel) (rfl) (rfl) (Nat.le_of_ble_eq_true rfl) dX4_copy_47 (fun H locs hP hD hS => ?_)
  have hP : va_P (dC, dI) vwCl [(h0, .inr (4, [.ref h1, .ref h2, .int a6, .int a7, .int a8, .int a4])), (h1, .inl (cI, 81, .inl f_1)), (h4, .inr (4, [.ref h5, .ref h6, .int a6, .int a7, .int a8, .int a9])), (h5, .inl (cI, 81, .inl g2)), (h2, .inr (3, [.ref h3, .int a5])), (h3, .inl (cI, 9, .inl f_3)), (h6, .inr (3, [.ref h7, .int a5])), (h7, .inl (cI, 9, .inl g3))] H := hP
  have hD : va_D A [(h0, .inr (4, [.ref h1, .ref h2, .int a6, .int a7, .int a8, .int a4])), (h1, .inl (cI, 81, .inl f_1)), (h4, .inr (4, [.ref h5, .ref h6, .int a6, .int a7, .int a8, .int a9])), (h5, .inl (cI, 81, .inl g2)), (h2, .inr (3, [.ref h3, .int a5])), (h3, .inl (cI, 9, .inl f_3)), (h6, .inr (3, [.ref h7, .int a5])), (h7, .inl (cI, 9, .inl g3))] := hD
  have hP9 := hP.sub (ws' := [(h0, .inr (4, [.ref h1, .ref h2, .int a6, .int a7, .int a8, .int a4])), (h1, .inl (cI, 81, .inl f_1)), (h2, .inr (3, [.ref h3, .int a5])), (h3, .inl (cI, 9, .inl f_3)), (h4, .inr (4, [.ref h5, .ref h6, .int a6, .int a7, .int a8, .int a9])), (h5, .inl (cI, 81, .inl g2)), (h6, .inr (3, [.ref h7, .int a5])), (h7, .inl (cI, 9, .inl g3))]) [0, 1, 4, 5, 2, 3, 6, 7] rfl
  have hD9 := hD.sub (ws' := [(h0, .inr (4, [.ref h1, .ref h2, .int a6, .int a7, .int a8, .int a4])), (h1, .inl (cI, 81, .inl f_1)), (h2, .inr (3, [.ref h3, .int a5])), (h3, .inl (cI, 9, .inl f_3)), (h4, .inr (4, [.ref h5, .ref h6, .int a6, .int a7, .int a8, .int a9])), (h5, .inl (cI, 81, .inl g2)), (h6, .inr (3, [.ref h7, .int a5])), (h7, .inl (cI, 9, .inl g3))]) [0, 1, 4, 5, 2, 3, 6, 7] (by decide) rfl
  exact W.vret hx hb hr (fun t ht hW => ⟨⟨(), rfl, trivial, ⟨f_1, f_3, hf_3, by rw [ht]; exact hP9, hD9⟩⟩, hS.F ht⟩) hS.2.2 dX4_copy_50
def v_s_X4_meet : List Cond := Cond.code yX4_meet cX4_meet 3 none :: ([Cond.fieldLink RX4 9 "MayRings$Past" "met" "[I", Cond.fieldLink RX4 22 "MayRings$Past" "years" "I"] ++ (wsX40 ++ ([])))
theorem k_s_X4_meet : GoodIn lw_tbl v_s_X4_meet := gd_c (List.mem_of_getElem? (i := 1137) (by decide +kernel)) rfl (goodIn_app (gd_c (List.mem_of_getElem? (i := 373) (by decide +kernel)) rfl (gd_c (List.mem_of_getElem? (i := 376) (by decide +kernel)) rfl (gd_nil))) (goodIn_app kfX4 (gd_nil)))
set_option maxHeartbeats 2000000 in
set_option maxRecDepth 100000 in
theorem c_s_X4_meet (l : Launch) (dC : Nat → ClassId) (dI : Nat → Nat → Nat) (cB cI cJ cZ cP : ClassId) (h0 : Nat) (h1 : Nat) (g0 : Nat → Int32) (h2 : Nat) (a1 : Int32) (a2 : Int32) (a3 : Int32) (a4 : Int32) (p0 : Int32) (hp0 : rg (0) (8) p0) (p1 : Int32) (hp1 : rg (0) (8) p1) (sz : Nat) : Met l yX4_meet v_s_X4_meet ({ frames := 0, cells := 0, slots := 0, locals := 0 }) (va_Pc [.ref h0, .int p0, .int p1] (fun U => U.heap.size = sz ∧ va_P (dC, dI) vwCl [(h0, .inr (4, [.ref h1, .ref h2, .int a1, .int a2, .int a3, .int a4])), (h1, .inl (cI, 81, .inl g0))] U.heap ∧ va_K (dC, dI) vwCl (ty5 cB cI cJ cZ cP) U ∧ va_D (fun _ => True) [(h0, .inr (4, [.ref h1, .ref h2, .int a1, .int a2, .int a3, .int a4])), (h1, .inl (cI, 81, .inl g0))])) (va_Qv (fun _ : Unit => True) (fun _ t => ∃ (z0 : Nat → Int32), va_P (dC, dI) vwCl [(h0, .inr (4, [.ref h1, .ref h2, .int a1, .int a2, .int a3, .int a4])), (h1, .inl (cI, 81, .inl z0))] t.heap ∧ va_D (va_A [(h0, .inr (4, [.ref h1, .ref h2, .int a1, .int a2, .int a3, .int a4])), (h1, .inl (cI, 81, .inl g0))] sz) [(h0, .inr (4, [.ref h1, .ref h2, .int a1, .int a2, .int a3, .int a4])), (h1, .inl (cI, 81, .inl z0))]) (va_A [(h0, .inr (4, [.ref h1, .ref h2, .int a1, .int a2, .int a3, .int a4])), (h1, .inl (cI, 81, .inl g0))] sz)) 0 0 (va_A [(h0, .inr (4, [.ref h1, .ref h2, .int a1, .int a2, .int a3, .int a4])), (h1, .inl (cI, 81, .inl g0))] sz) := by
  refine Met.ofW (cc := cX4_meet) (maxL := 3) (ret := none) (by decide) rfl ?_
  intro p e s m args below meth c s₁ B hml hv
  obtain ⟨rfl, hsz, hP, hK, hD0⟩ := hv
  have hx := B.exec
  have hb := B.bytes
  have hr := B.returns
  have hts := atoms_spec (ws := v_s_X4_meet) B.pre
  have hown : s.vm.findClass RX4 = some m.cls := findClass_of_methodNamed B.named
  have hlocks := B.notSynchronized
  have hinX4 : ∀ w ∈ wsX40, w ∈ v_s_X4_meet := fun _ h => List.mem_cons_of_mem _ (List.mem_append_right _ (List.mem_append_left _ h))
  subst hsz
  have hD := hD0.self (sz := s.heap.size)
  generalize hAe : va_A [(h0, .inr (4, [.ref h1, .ref h2, .int a1, .int a2, .int a3, .int a4])), (h1, .inl (cI, 81, .inl g0))] s.heap.size = A at hD ⊢
  have hA : ∀ q : Nat, s.heap.size ≤ q → A q := fun q h => by rw [← hAe]; exact Or.inr h
  have hP : va_P (dC, dI) vwCl [(h0, .inr (4, [.ref h1, .ref h2, .int a1, .int a2, .int a3, .int a4])), (h1, .inl (cI, 81, .inl g0))] s.heap := hP
  have hl := lv_entry ([.ref h0, .int p0, .int p1]) (n := 3) (Nat.le_of_ble_eq_true rfl)
  rw [lg_entry_eq]
  generalize (lg_sl ([.ref h0, .int p0, .int p1]) ++ List.replicate (3 - (lg_sl ([.ref h0, .int p0, .int p1])).length) Slot.unset).toArray = ls at hl ⊢
  have hl : lv_has ls 3 [(0, .ref h0), (1, .int p0), (2, .int p1)] := hl
  refine W_gen (A := A) hP (fun H locs hP hS => ?_)
  refine lv_aload_n hx hb dX4_meet_0 rfl (lv_at hl 0 rfl) ?_
  refine va_get (D := (dC, dI)) (ci := 4) (v := .ref h1) (C := RX4) (T := TX4) (N := 6) hx hb hts hinX4 hown hK hP 0 rfl rfl 0 (by decide) (hts (.fieldLink RX4 9 "MayRings$Past" "met" "[I") (List.mem_of_getElem? (i := 1) rfl)) (fun _ h9 => h9) rfl dX4_meet_1 ?_
  refine lv_iload_n hx hb dX4_meet_4 rfl (lv_at hl 1 rfl) ?_
  refine lv_bipush (v := 9) hx hb dX4_meet_5 (by decide) ?_
  refine lv_imul hx hb dX4_meet_7 ?_
  refine lv_topi (fun x_1 ex_1 => ?_)
  have hx_1 : rg (0) (72) x_1 := by rw [ex_1]; exact rg_mono (rg_mul hp0 (rg_k (x := 9) (c := 9) (by decide)) (by decide) (by decide) (by decide)) (by decide) (by decide)
  refine lv_iload_n hx hb dX4_meet_8 rfl (lv_at hl 2 rfl) ?_
  refine lv_iadd hx hb dX4_meet_9 ?_
  refine lv_topi (fun x_2 ex_2 => ?_)
  have hx_2 : rg (0) (80) x_2 := by rw [ex_2]; exact rg_mono (rg_add hx_1 hp1 (by decide) (by decide)) (by decide) (by decide)
  have qx_2 : x_2.toInt = x_1.toInt + p1.toInt := by rw [ex_2]; exact rg_addQ hx_1 hp1 (by decide) (by decide)
  refine lv_aload_n hx hb dX4_meet_10 rfl (lv_at hl 0 rfl) ?_
  refine va_get (D := (dC, dI)) (ci := 4) (v := .int a1) (C := RX4) (T := TX4) (N := 6) hx hb hts hinX4 hown hK hP 0 rfl rfl 2 (by decide) (hts (.fieldLink RX4 22 "MayRings$Past" "years" "I") (List.mem_of_getElem? (i := 2) rfl)) (fun _ h9 => h9) rfl dX4_meet_11 ?_
  refine va_iast hx hb hK hP hD hS 1 1 rfl rfl (rg_in (n := 81) (rg_mono hx_2 (by decide) (by decide))) dX4_meet_14 (fun H locs hP hD hS => ?_)
  obtain ⟨f_3, ef_3⟩ : ∃ f : Nat → Int32, f = upd g0 (x_2 : Int32).toNatClampNeg a1 := ⟨_, rfl⟩
  rw [← ef_3] at hP hD
  clear ef_3
  have hP : va_P (dC, dI) vwCl [(h0, .inr (4, [.ref h1, .ref h2, .int a1, .int a2, .int a3, .int a4])), (h1, .inl (cI, 81, .inl f_3))] H := hP
  have hD : va_D A [(h0, .inr (4, [.ref h1, .ref h2, .int a1, .int a2, .int a3, .int a4])), (h1, .inl (cI, 81, .inl f_3))] := hD
  refine lv_aload_n hx hb dX4_meet_15 rfl (lv_at hl 0 rfl) ?_
  refine va_get (D := (dC, dI)) (ci := 4) (v := .ref h1) (C := RX4) (T := TX4) (N := 6) hx hb hts hinX4 hown hK hP 0 rfl rfl 0 (by decide) (hts (.fieldLink RX4 9 "MayRings$Past" "met" "[I") (List.mem_of_getElem? (i := 1) rfl)) (fun _ h9 => h9) rfl dX4_meet_16 ?_
  refine lv_iload_n hx hb dX4_meet_19 rfl (lv_at hl 2 rfl) ?_
  refine lv_bipush (v := 9) hx hb dX4_meet_20 (by decide) ?_
  refine lv_imul hx hb dX4_meet_22 ?_
  refine lv_topi (fun x_4 ex_4 => ?_)
  have hx_4 : rg (0) (72) x_4 := by rw [ex_4]; exact rg_mono (rg_mul hp1 (rg_k (x := 9) (c := 9) (by decide)) (by decide) (by decide) (by decide)) (by decide) (by decide)
  refine lv_iload_n hx hb dX4_meet_23 rfl (lv_at hl 1 rfl) ?_
  refine lv_iadd hx hb dX4_meet_24 ?_
  refine lv_topi (fun x_5 ex_5 => ?_)
  have hx_5 : rg (0) (80) x_5 := by rw [ex_5]; exact rg_mono (rg_add hx_4 hp0 (by decide) (by decide)) (by decide) (by decide)
  have qx_5 : x_5.toInt = x_4.toInt + p0.toInt := by rw [ex_5]; exact rg_addQ hx_4 hp0 (by decide) (by decide)
  refine lv_aload_n hx hb dX4_meet_25 rfl (lv_at hl 0 rfl) ?_
  refine va_get (D := (dC, dI)) (ci := 4) (v := .int a1) (C := RX4) (T := TX4) (N := 6) hx hb hts hinX4 hown hK hP 0 rfl rfl 2 (by decide) (hts (.fieldLink RX4 22 "MayRings$Past" "years" "I") (List.mem_of_getElem? (i := 2) rfl)) (fun _ h9 => h9) rfl dX4_meet_26 ?_
  refine va_iast hx hb hK hP hD hS 1 1 rfl rfl (rg_in (n := 81) (rg_mono hx_5 (by decide) (by decide))) dX4_meet_29 (fun H locs hP hD hS => ?_)
  obtain ⟨f_6, ef_6⟩ : ∃ f : Nat → Int32, f = upd f_3 (x_5 : Int32).toNatClampNeg a1 := ⟨_, rfl⟩
  rw [← ef_6] at hP hD
  clear ef_6
  have hP : va_P (dC, dI) vwCl [(h0, .inr (4, [.ref h1, .ref h2, .int a1, .int a2, .int a3, .int a4])), (h1, .inl (cI, 81, .inl f_6))] H := hP
  have hD : va_D A [(h0, .inr (4, [.ref h1, .ref h2, .int a1, .int a2, .int a3, .int a4])), (h1, .inl (cI, 81, .inl f_6))] := hD
  have hP9 := hP.sub (ws' := [(h0, .inr (4, [.ref h1, .ref h2, .int a1, .int a2, .int a3, .int a4])), (h1, .inl (cI, 81, .inl f_6))]) [0, 1] rfl
  have hD9 := hD.sub (ws' := [(h0, .inr (4, [.ref h1, .ref h2, .int a1, .int a2, .int a3, .int a4])), (h1, .inl (cI, 81, .inl f_6))]) [0, 1] (by decide) rfl
  exact W.vret hx hb hr (fun t ht hW => ⟨⟨(), rfl, trivial, ⟨f_6, by rw [ht]; exact hP9, hD9⟩⟩, hS.F ht⟩) hS.2.2 dX4_meet_30
def v_s_X4_placeOf : List Cond := Cond.code yX4_placeOf cX4_placeOf 3 (some .int) :: ([Cond.fieldLink RX4 18 "MayRings$Past" "standing" "LMayRings$Order;", Cond.fieldLink RX4 42 "MayRings$Order" "size" "I", Cond.fieldLink RX4 61 "MayRings$Order" "houses" "[I"] ++ (wsX30 ++ (wsX40 ++ ([]))))
theorem k_s_X4_placeOf : GoodIn lw_tbl v_s_X4_placeOf := gd_c (List.mem_of_getElem? (i := 906) (by decide +kernel)) rfl (goodIn_app (gd_c (List.mem_of_getElem? (i := 374) (by decide +kernel)) rfl (gd_c (List.mem_of_getElem? (i := 365) (by decide +kernel)) rfl (gd_c (List.mem_of_getElem? (i := 361) (by decide +kernel)) rfl (gd_nil)))) (goodIn_app kfX3 (goodIn_app kfX4 (gd_nil))))
set_option maxHeartbeats 2000000 in
set_option maxRecDepth 100000 in
theorem c_s_X4_placeOf (l : Launch) (dC : Nat → ClassId) (dI : Nat → Nat → Nat) (cB cI cJ cZ cP : ClassId) (h0 : Nat) (h1 : Nat) (h2 : Nat) (h3 : Nat) (g1 : Nat → Int32) (hg1 : rgA (0) (8) g1) (a0 : Int32) (ha0 : rg (-1) (9) a0) (a1 : Int32) (a2 : Int32) (a3 : Int32) (a4 : Int32) (p0 : Int32) (sz : Nat) : Met l yX4_placeOf v_s_X4_placeOf ({ frames := 0, cells := 0, slots := 0, locals := 0 }) (va_Pc [.ref h0, .int p0] (fun U => U.heap.size = sz ∧ va_P (dC, dI) vwCl [(h0, .inr (4, [.ref h1, .ref h2, .int a1, .int a2, .int a3, .int a4])), (h2, .inr (3, [.ref h3, .int a0])), (h3, .inl (cI, 9, .inl g1))] U.heap ∧ va_K (dC, dI) vwCl (ty5 cB cI cJ cZ cP) U ∧ va_D (fun _ => True) [(h0, .inr (4, [.ref h1, .ref h2, .int a1, .int a2, .int a3, .int a4])), (h2, .inr (3, [.ref h3, .int a0])), (h3, .inl (cI, 9, .inl g1))])) (va_Qi (fun (r : Int32) (u9 : Unit) => rg (-1) (8) r) (fun u9 t => va_P (dC, dI) vwCl [(h0, .inr (4, [.ref h1, .ref h2, .int a1, .int a2, .int a3, .int a4])), (h2, .inr (3, [.ref h3, .int a0])), (h3, .inl (cI, 9, .inl g1))] t.heap ∧ va_D (va_A [(h0, .inr (4, [.ref h1, .ref h2, .int a1, .int a2, .int a3, .int a4])), (h2, .inr (3, [.ref h3, .int a0])), (h3, .inl (cI, 9, .inl g1))] sz) [(h0, .inr (4, [.ref h1, .ref h2, .int a1, .int a2, .int a3, .int a4])), (h2, .inr (3, [.ref h3, .int a0])), (h3, .inl (cI, 9, .inl g1))]) (va_A [(h0, .inr (4, [.ref h1, .ref h2, .int a1, .int a2, .int a3, .int a4])), (h2, .inr (3, [.ref h3, .int a0])), (h3, .inl (cI, 9, .inl g1))] sz)) 0 0 (va_A [(h0, .inr (4, [.ref h1, .ref h2, .int a1, .int a2, .int a3, .int a4])), (h2, .inr (3, [.ref h3, .int a0])), (h3, .inl (cI, 9, .inl g1))] sz) := by
  refine Met.ofW (cc := cX4_placeOf) (maxL := 3) (ret := (some .int)) (by decide) rfl ?_
  intro p e s m args below meth c s₁ B hml hv
  obtain ⟨rfl, hsz, hP, hK, hD0⟩ := hv
  have hx := B.exec
  have hb := B.bytes
  have hr := B.returns
  have hts := atoms_spec (ws := v_s_X4_placeOf) B.pre
  have hown : s.vm.findClass RX4 = some m.cls := findClass_of_methodNamed B.named
  have hlocks := B.notSynchronized
  have hinX3 : ∀ w ∈ wsX30, w ∈ v_s_X4_placeOf := fun _ h => List.mem_cons_of_mem _ (List.mem_append_right _ (List.mem_append_left _ h))
  have hinX4 : ∀ w ∈ wsX40, w ∈ v_s_X4_placeOf := fun _ h => List.mem_cons_of_mem _ (List.mem_append_right _ (List.mem_append_right _ (List.mem_append_left _ h)))
  subst hsz
  have hD := hD0.self (sz := s.heap.size)
  generalize hAe : va_A [(h0, .inr (4, [.ref h1, .ref h2, .int a1, .int a2, .int a3, .int a4])), (h2, .inr (3, [.ref h3, .int a0])), (h3, .inl (cI, 9, .inl g1))] s.heap.size = A at hD ⊢
  have hA : ∀ q : Nat, s.heap.size ≤ q → A q := fun q h => by rw [← hAe]; exact Or.inr h
  have hP : va_P (dC, dI) vwCl [(h0, .inr (4, [.ref h1, .ref h2, .int a1, .int a2, .int a3, .int a4])), (h2, .inr (3, [.ref h3, .int a0])), (h3, .inl (cI, 9, .inl g1))] s.heap := hP
  have hl := lv_entry ([.ref h0, .int p0]) (n := 3) (Nat.le_of_ble_eq_true rfl)
  rw [lg_entry_eq]
  generalize (lg_sl ([.ref h0, .int p0]) ++ List.replicate (3 - (lg_sl ([.ref h0, .int p0])).length) Slot.unset).toArray = ls at hl ⊢
  have hl : lv_has ls 3 [(0, .ref h0), (1, .int p0)] := hl
  refine W_gen (A := A) hP (fun H locs hP hS => ?_)
  refine lv_iconst (v := 0) hx hb dX4_placeOf_0 (by decide) ?_
  refine lv_istore_n (lv' := [(2, .int 0), (0, .ref h0), (1, .int p0)]) hx hb dX4_placeOf_1 rfl hl (by decide) rfl (fun ls hl => ?_)
  refine W_loopM (σ := Int32) (fun u H locs ls => va_P (dC, dI) vwCl [(h0, .inr (4, [.ref h1, .ref h2, .int a1, .int a2, .int a3, .int a4])), (h2, .inr (3, [.ref h3, .int a0])), (h3, .inl (cI, 9, .inl g1))] H ∧ va_D A [(h0, .inr (4, [.ref h1, .ref h2, .int a1, .int a2, .int a3, .int a4])), (h2, .inr (3, [.ref h3, .int a0])), (h3, .inl (cI, 9, .inl g1))] ∧ va_S A s.heap H locs ∧ lv_has ls 3 [(2, .int u), (0, .ref h0), (1, .int p0)] ∧ rg (0) (9) u) (fun u => ((9) - u.toInt).toNat) 2 [] ?_ (0) H locs ls ⟨hP, hD, hS, hl, (rg_mono (rg_k (x := 0) (c := 0) (by decide)) (by decide) (by decide))⟩
  rintro x_71 H locs ls ⟨hP, hD, hS, hl, hx_71⟩ ih_79
  have hP : va_P (dC, dI) vwCl [(h0, .inr (4, [.ref h1, .ref h2, .int a1, .int a2, .int a3, .int a4])), (h2, .inr (3, [.ref h3, .int a0])), (h3, .inl (cI, 9, .inl g1))] H := hP
  have hD : va_D A [(h0, .inr (4, [.ref h1, .ref h2, .int a1, .int a2, .int a3, .int a4])), (h2, .inr (3, [.ref h3, .int a0])), (h3, .inl (cI, 9, .inl g1))] := hD
  have hl : lv_has ls 3 [(2, .int x_71), (0, .ref h0), (1, .int p0)] := hl
  have hx_71 : rg (0) (9) x_71 := hx_71
  refine lv_iload_n hx hb dX4_placeOf_2 rfl (lv_at hl 0 rfl) ?_
  refine lv_aload_n hx hb dX4_placeOf_3 rfl (lv_at hl 1 rfl) ?_
  refine va_get (D := (dC, dI)) (ci := 4) (v := .ref h2) (C := RX4) (T := TX4) (N := 6) hx hb hts hinX4 hown hK hP 0 rfl rfl 1 (by decide) (hts (.fieldLink RX4 18 "MayRings$Past" "standing" "LMayRings$Order;") (List.mem_of_getElem? (i := 1) rfl)) (fun _ h9 => h9) rfl dX4_placeOf_4 ?_
  refine va_get (D := (dC, dI)) (ci := 3) (v := .int a0) (C := RX3) (T := TX3) (N := 2) hx hb hts hinX3 hown hK hP 1 rfl rfl 1 (by decide) (hts (.fieldLink RX4 42 "MayRings$Order" "size" "I") (List.mem_of_getElem? (i := 2) rfl)) (fun _ h9 => h9) rfl dX4_placeOf_7 ?_
  refine lv_icmp_ge (tgt := 34) hx hb dX4_placeOf_10 (by decide) (fun c_80 => ?_) (fun c_80 => ?_)
  · skip
    refine lv_iconst (v := (-1)) hx hb dX4_placeOf_34 (by decide) ?_
    have hP9 := hP.sub (ws' := [(h0, .inr (4, [.ref h1, .ref h2, .int a1, .int a2, .int a3, .int a4])), (h2, .inr (3, [.ref h3, .int a0])), (h3, .inl (cI, 9, .inl g1))]) [0, 1, 2] rfl
    have hD9 := hD.sub (ws' := [(h0, .inr (4, [.ref h1, .ref h2, .int a1, .int a2, .int a3, .int a4])), (h2, .inr (3, [.ref h3, .int a0])), (h3, .inl (cI, 9, .inl g1))]) [0, 1, 2] (by decide) rfl
    exact W.iret (v := (-1)) hx hb hr (fun t ht hW => ⟨⟨(-1), (), rfl, (rg_mono (rg_k (x := (-1)) (c := -1) (by decide)) (by decide) (by decide)), ⟨by rw [ht]; exact hP9, hD9⟩⟩, hS.F ht⟩) hS.2.2 dX4_placeOf_35
  · skip
    have h_81 : rg (0) (8) x_71 := by have ha := hx_71; have hb_ := ha0; simp only [rg, fa_lt, fa_le, fa_eq] at ha hb_ c_80; simp only [rg]; omega
    have h_82 : rg (1) (9) a0 := by have ha := hx_71; have hb_ := ha0; simp only [rg, fa_lt, fa_le, fa_eq] at ha hb_ c_80; simp only [rg]; omega
    refine lv_aload_n hx hb dX4_placeOf_13 rfl (lv_at hl 1 rfl) ?_
    refine va_get (D := (dC, dI)) (ci := 4) (v := .ref h2) (C := RX4) (T := TX4) (N := 6) hx hb hts hinX4 hown hK hP 0 rfl rfl 1 (by decide) (hts (.fieldLink RX4 18 "MayRings$Past" "standing" "LMayRings$Order;") (List.mem_of_getElem? (i := 1) rfl)) (fun _ h9 => h9) rfl dX4_placeOf_14 ?_
    refine va_get (D := (dC, dI)) (ci := 3) (v := .ref h3) (C := RX3) (T := TX3) (N := 2) hx hb hts hinX3 hown hK hP 1 rfl rfl 0 (by decide) (hts (.fieldLink RX4 61 "MayRings$Order" "houses" "[I") (List.mem_of_getElem? (i := 3) rfl)) (fun _ h9 => h9) rfl dX4_placeOf_17 ?_
    refine lv_iload_n hx hb dX4_placeOf_20 rfl (lv_at hl 0 rfl) ?_
    refine va_iald hx hb hK hP 2 1 rfl rfl (rg_in (n := 9) (rg_mono h_81 (by decide) (by decide))) dX4_placeOf_21 ?_
    refine lv_topi (fun x_83 ex_83 => ?_)
    have hx_83 : rg (0) (8) x_83 := by rw [ex_83]; exact rg_mono (hg1 _) (by decide) (by decide)
    refine lv_iload_n hx hb dX4_placeOf_22 rfl (lv_at hl 2 rfl) ?_
    refine lv_icmp_ne (tgt := 28) hx hb dX4_placeOf_23 (by decide) (fun c_84 => ?_) (fun c_84 => ?_)
    · skip
      obtain ⟨x_85, ex_85⟩ : ∃ y : Int32, y = x_71 + Int32.ofInt (1) := ⟨_, rfl⟩
      have hx_85 : rg (1) (9) x_85 := by rw [ex_85]; exact rg_mono (rg_add h_81 (rg_k (x := Int32.ofInt (1)) (c := 1) (by decide)) (by decide) (by decide)) (by decide) (by decide)
      have qx_85 : x_85.toInt = x_71.toInt + (1) := by rw [ex_85]; exact rg_addE h_81 (rg_k (x := Int32.ofInt (1)) (c := 1) (by decide)) (by decide) (by decide) (by decide)
      refine lv_iinc (v := x_85) (lv' := [(2, .int x_85), (0, .ref h0), (1, .int p0)]) hx hb dX4_placeOf_28 hl (k := 0) rfl (ex_85.symm) (by decide) rfl (fun ls hl => ?_)
      clear ex_85
      refine lv_goto (tgt := 2) hx hb dX4_placeOf_31 (by decide) ?_
      exact ih_79 (x_85) H locs ls ⟨hP.sub (ws' := [(h0, .inr (4, [.ref h1, .ref h2, .int a1, .int a2, .int a3, .int a4])), (h2, .inr (3, [.ref h3, .int a0])), (h3, .inl (cI, 9, .inl g1))]) [0, 1, 2] rfl, hD.sub (ws' := [(h0, .inr (4, [.ref h1, .ref h2, .int a1, .int a2, .int a3, .int a4])), (h2, .inr (3, [.ref h3, .int a0])), (h3, .inl (cI, 9, .inl g1))]) [0, 1, 2] (by decide) rfl, hS, lv_sub hl [0, 1, 2] rfl, (rg_mono hx_85 (by decide) (by decide))⟩ (by show ((9) - x_85.toInt).toNat < ((9) - x_71.toInt).toNat; have ha := h_81; simp only [rg] at ha; omega)
    · skip
      have h_86 : rg (0) (8) p0 := by have ha := hx_83; have hb_ := (rg_any p0); simp only [rg, fa_lt, fa_le, fa_eq] at ha hb_ c_84; simp only [rg]; omega
      refine lv_iload_n hx hb dX4_placeOf_26 rfl (lv_at hl 0 rfl) ?_
      have hP9 := hP.sub (ws' := [(h0, .inr (4, [.ref h1, .ref h2, .int a1, .int a2, .int a3, .int a4])), (h2, .inr (3, [.ref h3, .int a0])), (h3, .inl (cI, 9, .inl g1))]) [0, 1, 2] rfl
      have hD9 := hD.sub (ws' := [(h0, .inr (4, [.ref h1, .ref h2, .int a1, .int a2, .int a3, .int a4])), (h2, .inr (3, [.ref h3, .int a0])), (h3, .inl (cI, 9, .inl g1))]) [0, 1, 2] (by decide) rfl
      exact W.iret (v := x_71) hx hb hr (fun t ht hW => ⟨⟨x_71, (), rfl, (rg_mono h_81 (by decide) (by decide)), ⟨by rw [ht]; exact hP9, hD9⟩⟩, hS.F ht⟩) hS.2.2 dX4_placeOf_27
def v_s_X5_put : List Cond := Cond.code yX5_put cX5_put 5 none :: ([Cond.fieldLink RX5 25 "MayRings$Reader" "count" "I", Cond.fieldLink RX5 15 "MayRings$Reader" "kinds" "[I", Cond.fieldLink RX5 19 "MayRings$Reader" "places" "[I", Cond.fieldLink RX5 22 "MayRings$Reader" "values" "[J"] ++ (wsX50 ++ ([])))
theorem k_s_X5_put : GoodIn lw_tbl v_s_X5_put := gd_c (List.mem_of_getElem? (i := 609) (by decide +kernel)) rfl (goodIn_app (gd_c (List.mem_of_getElem? (i := 311) (by decide +kernel)) rfl (gd_c (List.mem_of_getElem? (i := 308) (by decide +kernel)) rfl (gd_c (List.mem_of_getElem? (i := 309) (by decide +kernel)) rfl (gd_c (List.mem_of_getElem? (i := 310) (by decide +kernel)) rfl (gd_nil))))) (goodIn_app kfX5 (gd_nil)))
set_option maxHeartbeats 2000000 in
set_option maxRecDepth 100000 in
theorem c_s_X5_put (l : Launch) (dC : Nat → ClassId) (dI : Nat → Nat → Nat) (cB cI cJ cZ cP : ClassId) (h0 : Nat) (h1 : Nat) (h2 : Nat) (g1 : Nat → Int32) (h3 : Nat) (g2 : Nat → Int32) (h4 : Nat) (g3 : Nat → Int64) (a0 : Int32) (ha0 : rg (0) (1601) a0) (a1 : Int32) (h5 : Nat) (a9 : Int32) (a10 : Int32) (a11 : Int32) (a12 : Int32) (a13 : Int32) (p0 : Int32) (p1 : Int32) (y0 : Int64) (sz : Nat) : Met l yX5_put v_s_X5_put ({ frames := 0, cells := 0, slots := 0, locals := 0 }) (va_Pc [.ref h0, .int p0, .int p1, .long y0] (fun U => U.heap.size = sz ∧ va_P (dC, dI) vwCl [(h0, .inr (5, [.ref h1, .ref h2, .ref h3, .ref h4, .int a0, .int a1, .ref h5, .int a9, .int a10, .int a11, .int a12, .int a13])), (h2, .inl (cI, 1601, .inl g1)), (h3, .inl (cI, 1601, .inl g2)), (h4, .inl (cJ, 1601, .inr (.inl g3)))] U.heap ∧ va_K (dC, dI) vwCl (ty5 cB cI cJ cZ cP) U ∧ va_D (fun _ => True) [(h0, .inr (5, [.ref h1, .ref h2, .ref h3, .ref h4, .int a0, .int a1, .ref h5, .int a9, .int a10, .int a11, .int a12, .int a13])), (h2, .inl (cI, 1601, .inl g1)), (h3, .inl (cI, 1601, .inl g2)), (h4, .inl (cJ, 1601, .inr (.inl g3)))])) (va_Qv (fun _ : Unit => True) (fun _ t => ∃ (z0 : Int32) (z1 : Nat → Int32) (z2 : Nat → Int32) (z3 : Nat → Int64), rg (0) (1601) z0 ∧ va_P (dC, dI) vwCl [(h0, .inr (5, [.ref h1, .ref h2, .ref h3, .ref h4, .int z0, .int a1, .ref h5, .int a9, .int a10, .int a11, .int a12, .int a13])), (h2, .inl (cI, 1601, .inl z1)), (h3, .inl (cI, 1601, .inl z2)), (h4, .inl (cJ, 1601, .inr (.inl z3)))] t.heap ∧ va_D (va_A [(h0, .inr (5, [.ref h1, .ref h2, .ref h3, .ref h4, .int a0, .int a1, .ref h5, .int a9, .int a10, .int a11, .int a12, .int a13])), (h2, .inl (cI, 1601, .inl g1)), (h3, .inl (cI, 1601, .inl g2)), (h4, .inl (cJ, 1601, .inr (.inl g3)))] sz) [(h0, .inr (5, [.ref h1, .ref h2, .ref h3, .ref h4, .int z0, .int a1, .ref h5, .int a9, .int a10, .int a11, .int a12, .int a13])), (h2, .inl (cI, 1601, .inl z1)), (h3, .inl (cI, 1601, .inl z2)), (h4, .inl (cJ, 1601, .inr (.inl z3)))]) (va_A [(h0, .inr (5, [.ref h1, .ref h2, .ref h3, .ref h4, .int a0, .int a1, .ref h5, .int a9, .int a10, .int a11, .int a12, .int a13])), (h2, .inl (cI, 1601, .inl g1)), (h3, .inl (cI, 1601, .inl g2)), (h4, .inl (cJ, 1601, .inr (.inl g3)))] sz)) 0 0 (va_A [(h0, .inr (5, [.ref h1, .ref h2, .ref h3, .ref h4, .int a0, .int a1, .ref h5, .int a9, .int a10, .int a11, .int a12, .int a13])), (h2, .inl (cI, 1601, .inl g1)), (h3, .inl (cI, 1601, .inl g2)), (h4, .inl (cJ, 1601, .inr (.inl g3)))] sz) := by
  refine Met.ofW (cc := cX5_put) (maxL := 5) (ret := none) (by decide) rfl ?_
  intro p e s m args below meth c s₁ B hml hv
  obtain ⟨rfl, hsz, hP, hK, hD0⟩ := hv
  have hx := B.exec
  have hb := B.bytes
  have hr := B.returns
  have hts := atoms_spec (ws := v_s_X5_put) B.pre
  have hown : s.vm.findClass RX5 = some m.cls := findClass_of_methodNamed B.named
  have hlocks := B.notSynchronized
  have hinX5 : ∀ w ∈ wsX50, w ∈ v_s_X5_put := fun _ h => List.mem_cons_of_mem _ (List.mem_append_right _ (List.mem_append_left _ h))
  subst hsz
  have hD := hD0.self (sz := s.heap.size)
  generalize hAe : va_A [(h0, .inr (5, [.ref h1, .ref h2, .ref h3, .ref h4, .int a0, .int a1, .ref h5, .int a9, .int a10, .int a11, .int a12, .int a13])), (h2, .inl (cI, 1601, .inl g1)), (h3, .inl (cI, 1601, .inl g2)), (h4, .inl (cJ, 1601, .inr (.inl g3)))] s.heap.size = A at hD ⊢
  have hA : ∀ q : Nat, s.heap.size ≤ q → A q := fun q h => by rw [← hAe]; exact Or.inr h
  have hP : va_P (dC, dI) vwCl [(h0, .inr (5, [.ref h1, .ref h2, .ref h3, .ref h4, .int a0, .int a1, .ref h5, .int a9, .int a10, .int a11, .int a12, .int a13])), (h2, .inl (cI, 1601, .inl g1)), (h3, .inl (cI, 1601, .inl g2)), (h4, .inl (cJ, 1601, .inr (.inl g3)))] s.heap := hP
  have hl := lv_entry ([.ref h0, .int p0, .int p1, .long y0]) (n := 5) (Nat.le_of_ble_eq_true rfl)
  rw [lg_entry_eq]
  generalize (lg_sl ([.ref h0, .int p0, .int p1, .long y0]) ++ List.replicate (5 - (lg_sl ([.ref h0, .int p0, .int p1, .long y0])).length) Slot.unset).toArray = ls at hl ⊢
  have hl : lv_has ls 5 [(0, .ref h0), (1, .int p0), (2, .int p1), (3, .long y0)] := hl
  refine W_gen (A := A) hP (fun H locs hP hS => ?_)
  refine lv_aload_n hx hb dX5_put_0 rfl (lv_at hl 0 rfl) ?_
  refine va_get (D := (dC, dI)) (ci := 5) (v := .int a0) (C := RX5) (T := TX5) (N := 12) hx hb hts hinX5 hown hK hP 0 rfl rfl 4 (by decide) (hts (.fieldLink RX5 25 "MayRings$Reader" "count" "I") (List.mem_of_getElem? (i := 1) rfl)) (fun _ h9 => h9) rfl dX5_put_1 ?_
  refine lv_sipush (v := 1600) hx hb dX5_put_4 (by decide) ?_
  refine lv_icmp_gt (tgt := 50) hx hb dX5_put_7 (by decide) (fun c_1 => ?_) (fun c_1 => ?_)
  · skip
    have h_2 : rg (1601) (1601) a0 := by have ha := ha0; have hb_ := (rg_k (x := 1600) (c := 1600) (by decide)); simp only [rg, fa_lt, fa_le, fa_eq, (by decide : (1600 : Int32).toInt = 1600)] at ha hb_ c_1; simp only [rg]; omega
    have hP9 := hP.sub (ws' := [(h0, .inr (5, [.ref h1, .ref h2, .ref h3, .ref h4, .int a0, .int a1, .ref h5, .int a9, .int a10, .int a11, .int a12, .int a13])), (h2, .inl (cI, 1601, .inl g1)), (h3, .inl (cI, 1601, .inl g2)), (h4, .inl (cJ, 1601, .inr (.inl g3)))]) [0, 1, 2, 3] rfl
    have hD9 := hD.sub (ws' := [(h0, .inr (5, [.ref h1, .ref h2, .ref h3, .ref h4, .int a0, .int a1, .ref h5, .int a9, .int a10, .int a11, .int a12, .int a13])), (h2, .inl (cI, 1601, .inl g1)), (h3, .inl (cI, 1601, .inl g2)), (h4, .inl (cJ, 1601, .inr (.inl g3)))]) [0, 1, 2, 3] (by decide) rfl
    exact W.vret hx hb hr (fun t ht hW => ⟨⟨(), rfl, trivial, ⟨a0, g1, g2, g3, (rg_mono h_2 (by decide) (by decide)), by rw [ht]; exact hP9, hD9⟩⟩, hS.F ht⟩) hS.2.2 dX5_put_50
  · skip
    have h_3 : rg (0) (1600) a0 := by have ha := ha0; have hb_ := (rg_k (x := 1600) (c := 1600) (by decide)); simp only [rg, fa_lt, fa_le, fa_eq, (by decide : (1600 : Int32).toInt = 1600)] at ha hb_ c_1; simp only [rg]; omega
    refine lv_aload_n hx hb dX5_put_10 rfl (lv_at hl 0 rfl) ?_
    refine va_get (D := (dC, dI)) (ci := 5) (v := .ref h2) (C := RX5) (T := TX5) (N := 12) hx hb hts hinX5 hown hK hP 0 rfl rfl 1 (by decide) (hts (.fieldLink RX5 15 "MayRings$Reader" "kinds" "[I") (List.mem_of_getElem? (i := 2) rfl)) (fun _ h9 => h9) rfl dX5_put_11 ?_
    refine lv_aload_n hx hb dX5_put_14 rfl (lv_at hl 0 rfl) ?_
    refine va_get (D := (dC, dI)) (ci := 5) (v := .int a0) (C := RX5) (T := TX5) (N := 12) hx hb hts hinX5 hown hK hP 0 rfl rfl 4 (by decide) (hts (.fieldLink RX5 25 "MayRings$Reader" "count" "I") (List.mem_of_getElem? (i := 1) rfl)) (fun _ h9 => h9) rfl dX5_put_15 ?_
    refine lv_iload_n hx hb dX5_put_18 rfl (lv_at hl 1 rfl) ?_
    refine va_iast hx hb hK hP hD hS 1 1 rfl rfl (rg_in (n := 1601) (rg_mono h_3 (by decide) (by decide))) dX5_put_19 (fun H locs hP hD hS => ?_)
    obtain ⟨f_4, ef_4⟩ : ∃ f : Nat → Int32, f = upd g1 (a0 : Int32).toNatClampNeg p0 := ⟨_, rfl⟩
    rw [← ef_4] at hP hD
    clear ef_4
    have hP : va_P (dC, dI) vwCl [(h0, .inr (5, [.ref h1, .ref h2, .ref h3, .ref h4, .int a0, .int a1, .ref h5, .int a9, .int a10, .int a11, .int a12, .int a13])), (h2, .inl (cI, 1601, .inl f_4)), (h3, .inl (cI, 1601, .inl g2)), (h4, .inl (cJ, 1601, .inr (.inl g3)))] H := hP
    have hD : va_D A [(h0, .inr (5, [.ref h1, .ref h2, .ref h3, .ref h4, .int a0, .int a1, .ref h5, .int a9, .int a10, .int a11, .int a12, .int a13])), (h2, .inl (cI, 1601, .inl f_4)), (h3, .inl (cI, 1601, .inl g2)), (h4, .inl (cJ, 1601, .inr (.inl g3)))] := hD
    refine lv_aload_n hx hb dX5_put_20 rfl (lv_at hl 0 rfl) ?_
    refine va_get (D := (dC, dI)) (ci := 5) (v := .ref h3) (C := RX5) (T := TX5) (N := 12) hx hb hts hinX5 hown hK hP 0 rfl rfl 2 (by decide) (hts (.fieldLink RX5 19 "MayRings$Reader" "places" "[I") (List.mem_of_getElem? (i := 3) rfl)) (fun _ h9 => h9) rfl dX5_put_21 ?_
    refine lv_aload_n hx hb dX5_put_24 rfl (lv_at hl 0 rfl) ?_
    refine va_get (D := (dC, dI)) (ci := 5) (v := .int a0) (C := RX5) (T := TX5) (N := 12) hx hb hts hinX5 hown hK hP 0 rfl rfl 4 (by decide) (hts (.fieldLink RX5 25 "MayRings$Reader" "count" "I") (List.mem_of_getElem? (i := 1) rfl)) (fun _ h9 => h9) rfl dX5_put_25 ?_
    refine lv_iload_n hx hb dX5_put_28 rfl (lv_at hl 2 rfl) ?_
    refine va_iast hx hb hK hP hD hS 2 1 rfl rfl (rg_in (n := 1601) (rg_mono h_3 (by decide) (by decide))) dX5_put_29 (fun H locs hP hD hS => ?_)
    obtain ⟨f_5, ef_5⟩ : ∃ f : Nat → Int32, f = upd g2 (a0 : Int32).toNatClampNeg p1 := ⟨_, rfl⟩
    rw [← ef_5] at hP hD
    clear ef_5
    have hP : va_P (dC, dI) vwCl [(h0, .inr (5, [.ref h1, .ref h2, .ref h3, .ref h4, .int a0, .int a1, .ref h5, .int a9, .int a10, .int a11, .int a12, .int a13])), (h2, .inl (cI, 1601, .inl f_4)), (h3, .inl (cI, 1601, .inl f_5)), (h4, .inl (cJ, 1601, .inr (.inl g3)))] H := hP
    have hD : va_D A [(h0, .inr (5, [.ref h1, .ref h2, .ref h3, .ref h4, .int a0, .int a1, .ref h5, .int a9, .int a10, .int a11, .int a12, .int a13])), (h2, .inl (cI, 1601, .inl f_4)), (h3, .inl (cI, 1601, .inl f_5)), (h4, .inl (cJ, 1601, .inr (.inl g3)))] := hD
    refine lv_aload_n hx hb dX5_put_30 rfl (lv_at hl 0 rfl) ?_
    refine va_get (D := (dC, dI)) (ci := 5) (v := .ref h4) (C := RX5) (T := TX5) (N := 12) hx hb hts hinX5 hown hK hP 0 rfl rfl 3 (by decide) (hts (.fieldLink RX5 22 "MayRings$Reader" "values" "[J") (List.mem_of_getElem? (i := 4) rfl)) (fun _ h9 => h9) rfl dX5_put_31 ?_
    refine lv_aload_n hx hb dX5_put_34 rfl (lv_at hl 0 rfl) ?_
    refine va_get (D := (dC, dI)) (ci := 5) (v := .int a0) (C := RX5) (T := TX5) (N := 12) hx hb hts hinX5 hown hK hP 0 rfl rfl 4 (by decide) (hts (.fieldLink RX5 25 "MayRings$Reader" "count" "I") (List.mem_of_getElem? (i := 1) rfl)) (fun _ h9 => h9) rfl dX5_put_35 ?_
    refine lv_lload_n hx hb dX5_put_38 rfl (lv_at hl 3 rfl) ?_
    refine va_last hx hb hK hP hD hS 3 2 rfl rfl (rg_in (n := 1601) (rg_mono h_3 (by decide) (by decide))) dX5_put_39 (fun H locs hP hD hS => ?_)
    obtain ⟨f_6, ef_6⟩ : ∃ f : Nat → Int64, f = vp_updL g3 (a0 : Int32).toNatClampNeg y0 := ⟨_, rfl⟩
    rw [← ef_6] at hP hD
    clear ef_6
    have hP : va_P (dC, dI) vwCl [(h0, .inr (5, [.ref h1, .ref h2, .ref h3, .ref h4, .int a0, .int a1, .ref h5, .int a9, .int a10, .int a11, .int a12, .int a13])), (h2, .inl (cI, 1601, .inl f_4)), (h3, .inl (cI, 1601, .inl f_5)), (h4, .inl (cJ, 1601, .inr (.inl f_6)))] H := hP
    have hD : va_D A [(h0, .inr (5, [.ref h1, .ref h2, .ref h3, .ref h4, .int a0, .int a1, .ref h5, .int a9, .int a10, .int a11, .int a12, .int a13])), (h2, .inl (cI, 1601, .inl f_4)), (h3, .inl (cI, 1601, .inl f_5)), (h4, .inl (cJ, 1601, .inr (.inl f_6)))] := hD
    refine lv_aload_n hx hb dX5_put_40 rfl (lv_at hl 0 rfl) ?_
    refine lv_dup hx hb dX5_put_41 rfl ?_
    refine va_get (D := (dC, dI)) (ci := 5) (v := .int a0) (C := RX5) (T := TX5) (N := 12) hx hb hts hinX5 hown hK hP 0 rfl rfl 4 (by decide) (hts (.fieldLink RX5 25 "MayRings$Reader" "count" "I") (List.mem_of_getElem? (i := 1) rfl)) (fun _ h9 => h9) rfl dX5_put_42 ?_
    refine lv_iconst (v := 1) hx hb dX5_put_45 (by decide) ?_
    refine lv_iadd hx hb dX5_put_46 ?_
    refine lv_topi (fun x_7 ex_7 => ?_)
    have hx_7 : rg (1) (1601) x_7 := by rw [ex_7]; exact rg_mono (rg_add h_3 (rg_k (x := 1) (c := 1) (by decide)) (by decide) (by decide)) (by decide) (by decide)
    have qx_7 : x_7.toInt = a0.toInt + (1) := by rw [ex_7]; exact rg_addE h_3 (rg_k (x := 1) (c := 1) (by decide)) (by decide) (by decide) trivial
    refine va_put (D := (dC, dI)) (ci := 5) (v := .int x_7) (ty := .int) (C := RX5) (T := TX5) (N := 12) hx hb hts hinX5 tyX5 tyX5_ok nmX5 hown hK hP hD hS 0 rfl rfl 4 (by decide) (hts (.fieldLink RX5 25 "MayRings$Reader" "count" "I") (List.mem_of_getElem? (i := 1) rfl)) (fun _ h9 => h9) rfl (by decide +kernel) (rfl) (rfl) (Nat.le_of_ble_eq_true rfl) dX5_put_47 (fun H locs hP hD hS => ?_)
    have hP : va_P (dC, dI) vwCl [(h0, .inr (5, [.ref h1, .ref h2, .ref h3, .ref h4, .int x_7, .int a1, .ref h5, .int a9, .int a10, .int a11, .int a12, .int a13])), (h2, .inl (cI, 1601, .inl f_4)), (h3, .inl (cI, 1601, .inl f_5)), (h4, .inl (cJ, 1601, .inr (.inl f_6)))] H := hP
    have hD : va_D A [(h0, .inr (5, [.ref h1, .ref h2, .ref h3, .ref h4, .int x_7, .int a1, .ref h5, .int a9, .int a10, .int a11, .int a12, .int a13])), (h2, .inl (cI, 1601, .inl f_4)), (h3, .inl (cI, 1601, .inl f_5)), (h4, .inl (cJ, 1601, .inr (.inl f_6)))] := hD
    have hP9 := hP.sub (ws' := [(h0, .inr (5, [.ref h1, .ref h2, .ref h3, .ref h4, .int x_7, .int a1, .ref h5, .int a9, .int a10, .int a11, .int a12, .int a13])), (h2, .inl (cI, 1601, .inl f_4)), (h3, .inl (cI, 1601, .inl f_5)), (h4, .inl (cJ, 1601, .inr (.inl f_6)))]) [0, 1, 2, 3] rfl
    have hD9 := hD.sub (ws' := [(h0, .inr (5, [.ref h1, .ref h2, .ref h3, .ref h4, .int x_7, .int a1, .ref h5, .int a9, .int a10, .int a11, .int a12, .int a13])), (h2, .inl (cI, 1601, .inl f_4)), (h3, .inl (cI, 1601, .inl f_5)), (h4, .inl (cJ, 1601, .inr (.inl f_6)))]) [0, 1, 2, 3] (by decide) rfl
    exact W.vret hx hb hr (fun t ht hW => ⟨⟨(), rfl, trivial, ⟨x_7, f_4, f_5, f_6, (rg_mono hx_7 (by decide) (by decide)), by rw [ht]; exact hP9, hD9⟩⟩, hS.F ht⟩) hS.2.2 dX5_put_50
def v_s_X5_isLetter : List Cond := Cond.code yX5_isLetter cX5_isLetter 1 (some .boolean) :: ([] ++ ([]))
theorem k_s_X5_isLetter : GoodIn lw_tbl v_s_X5_isLetter := gd_c (List.mem_of_getElem? (i := 601) (by decide +kernel)) rfl (goodIn_app (gd_nil) (gd_nil))
set_option maxHeartbeats 2000000 in
set_option maxRecDepth 100000 in
theorem c_s_X5_isLetter (l : Launch) (dC : Nat → ClassId) (dI : Nat → Nat → Nat) (cB cI cJ cZ cP : ClassId) (p0 : Int32) (sz : Nat) : Met l yX5_isLetter v_s_X5_isLetter ({ frames := 0, cells := 0, slots := 0, locals := 0 }) (va_Pc [.int p0] (fun U => U.heap.size = sz ∧ va_P (dC, dI) vwCl [] U.heap ∧ va_K (dC, dI) vwCl (ty5 cB cI cJ cZ cP) U ∧ va_D (fun _ => True) [])) (va_Qi (fun (r : Int32) (u9 : Unit) => rg (0) (1) r) (fun u9 t => va_P (dC, dI) vwCl [] t.heap ∧ va_D (va_A [] sz) []) (va_A [] sz)) 0 0 (va_A [] sz) := by
  refine Met.ofW (cc := cX5_isLetter) (maxL := 1) (ret := (some .boolean)) (by decide) rfl ?_
  intro p e s m args below meth c s₁ B hml hv
  obtain ⟨rfl, hsz, hP, hK, hD0⟩ := hv
  have hx := B.exec
  have hb := B.bytes
  have hr := B.returns
  have hts := atoms_spec (ws := v_s_X5_isLetter) B.pre
  have hown : s.vm.findClass RX5 = some m.cls := findClass_of_methodNamed B.named
  have hlocks := B.notSynchronized
  subst hsz
  have hD := hD0.self (sz := s.heap.size)
  generalize hAe : va_A [] s.heap.size = A at hD ⊢
  have hA : ∀ q : Nat, s.heap.size ≤ q → A q := fun q h => by rw [← hAe]; exact Or.inr h
  have hP : va_P (dC, dI) vwCl [] s.heap := hP
  have hl := lv_entry ([.int p0]) (n := 1) (Nat.le_of_ble_eq_true rfl)
  rw [lg_entry_eq]
  generalize (lg_sl ([.int p0]) ++ List.replicate (1 - (lg_sl ([.int p0])).length) Slot.unset).toArray = ls at hl ⊢
  have hl : lv_has ls 1 [(0, .int p0)] := hl
  refine W_gen (A := A) hP (fun H locs hP hS => ?_)
  refine lv_iload_n hx hb dX5_isLetter_0 rfl (lv_at hl 0 rfl) ?_
  refine lv_bipush (v := 97) hx hb dX5_isLetter_1 (by decide) ?_
  refine lv_icmp_lt (tgt := 16) hx hb dX5_isLetter_3 (by decide) (fun c_1 => ?_) (fun c_1 => ?_)
  · skip
    have h_2 : rg (-2147483648) (96) p0 := by have ha := (rg_any p0); have hb_ := (rg_k (x := 97) (c := 97) (by decide)); simp only [rg, fa_lt, fa_le, fa_eq, (by decide : (97 : Int32).toInt = 97)] at ha hb_ c_1; simp only [rg]; omega
    refine lv_iconst (v := 0) hx hb dX5_isLetter_16 (by decide) ?_
    have hP9 := hP.sub (ws' := []) [] rfl
    have hD9 := hD.sub (ws' := []) [] (by decide) rfl
    exact W.zret (v := 0) hx hb hr (rfl) (fun t ht hW => ⟨⟨0, (), rfl, (rg_mono (rg_k (x := 0) (c := 0) (by decide)) (by decide) (by decide)), ⟨by rw [ht]; exact hP9, hD9⟩⟩, hS.F ht⟩) hS.2.2 dX5_isLetter_17
  · skip
    have h_3 : rg (97) (2147483647) p0 := by have ha := (rg_any p0); have hb_ := (rg_k (x := 97) (c := 97) (by decide)); simp only [rg, fa_lt, fa_le, fa_eq, (by decide : (97 : Int32).toInt = 97)] at ha hb_ c_1; simp only [rg]; omega
    refine lv_iload_n hx hb dX5_isLetter_6 rfl (lv_at hl 0 rfl) ?_
    refine lv_bipush (v := 122) hx hb dX5_isLetter_7 (by decide) ?_
    refine lv_icmp_gt (tgt := 16) hx hb dX5_isLetter_9 (by decide) (fun c_4 => ?_) (fun c_4 => ?_)
    · skip
      have h_5 : rg (123) (2147483647) p0 := by have ha := h_3; have hb_ := (rg_k (x := 122) (c := 122) (by decide)); simp only [rg, fa_lt, fa_le, fa_eq, (by decide : (122 : Int32).toInt = 122)] at ha hb_ c_4; simp only [rg]; omega
      refine lv_iconst (v := 0) hx hb dX5_isLetter_16 (by decide) ?_
      have hP9 := hP.sub (ws' := []) [] rfl
      have hD9 := hD.sub (ws' := []) [] (by decide) rfl
      exact W.zret (v := 0) hx hb hr (rfl) (fun t ht hW => ⟨⟨0, (), rfl, (rg_mono (rg_k (x := 0) (c := 0) (by decide)) (by decide) (by decide)), ⟨by rw [ht]; exact hP9, hD9⟩⟩, hS.F ht⟩) hS.2.2 dX5_isLetter_17
    · skip
      have h_6 : rg (97) (122) p0 := by have ha := h_3; have hb_ := (rg_k (x := 122) (c := 122) (by decide)); simp only [rg, fa_lt, fa_le, fa_eq, (by decide : (122 : Int32).toInt = 122)] at ha hb_ c_4; simp only [rg]; omega
      refine lv_iconst (v := 1) hx hb dX5_isLetter_12 (by decide) ?_
      refine lv_goto (tgt := 17) hx hb dX5_isLetter_13 (by decide) ?_
      have hP9 := hP.sub (ws' := []) [] rfl
      have hD9 := hD.sub (ws' := []) [] (by decide) rfl
      exact W.zret (v := 1) hx hb hr (rfl) (fun t ht hW => ⟨⟨1, (), rfl, (rg_mono (rg_k (x := 1) (c := 1) (by decide)) (by decide) (by decide)), ⟨by rw [ht]; exact hP9, hD9⟩⟩, hS.F ht⟩) hS.2.2 dX5_isLetter_17
def v_s_X5_isDigit : List Cond := Cond.code yX5_isDigit cX5_isDigit 1 (some .boolean) :: ([] ++ ([]))
theorem k_s_X5_isDigit : GoodIn lw_tbl v_s_X5_isDigit := gd_c (List.mem_of_getElem? (i := 616) (by decide +kernel)) rfl (goodIn_app (gd_nil) (gd_nil))
set_option maxHeartbeats 2000000 in
set_option maxRecDepth 100000 in
theorem c_s_X5_isDigit (l : Launch) (dC : Nat → ClassId) (dI : Nat → Nat → Nat) (cB cI cJ cZ cP : ClassId) (p0 : Int32) (sz : Nat) : Met l yX5_isDigit v_s_X5_isDigit ({ frames := 0, cells := 0, slots := 0, locals := 0 }) (va_Pc [.int p0] (fun U => U.heap.size = sz ∧ va_P (dC, dI) vwCl [] U.heap ∧ va_K (dC, dI) vwCl (ty5 cB cI cJ cZ cP) U ∧ va_D (fun _ => True) [])) (va_Qi (fun (r : Int32) (u9 : Unit) => rg (0) (1) r) (fun u9 t => va_P (dC, dI) vwCl [] t.heap ∧ va_D (va_A [] sz) []) (va_A [] sz)) 0 0 (va_A [] sz) := by
  refine Met.ofW (cc := cX5_isDigit) (maxL := 1) (ret := (some .boolean)) (by decide) rfl ?_
  intro p e s m args below meth c s₁ B hml hv
  obtain ⟨rfl, hsz, hP, hK, hD0⟩ := hv
  have hx := B.exec
  have hb := B.bytes
  have hr := B.returns
  have hts := atoms_spec (ws := v_s_X5_isDigit) B.pre
  have hown : s.vm.findClass RX5 = some m.cls := findClass_of_methodNamed B.named
  have hlocks := B.notSynchronized
  subst hsz
  have hD := hD0.self (sz := s.heap.size)
  generalize hAe : va_A [] s.heap.size = A at hD ⊢
  have hA : ∀ q : Nat, s.heap.size ≤ q → A q := fun q h => by rw [← hAe]; exact Or.inr h
  have hP : va_P (dC, dI) vwCl [] s.heap := hP
  have hl := lv_entry ([.int p0]) (n := 1) (Nat.le_of_ble_eq_true rfl)
  rw [lg_entry_eq]
  generalize (lg_sl ([.int p0]) ++ List.replicate (1 - (lg_sl ([.int p0])).length) Slot.unset).toArray = ls at hl ⊢
  have hl : lv_has ls 1 [(0, .int p0)] := hl
  refine W_gen (A := A) hP (fun H locs hP hS => ?_)
  refine lv_iload_n hx hb dX5_isDigit_0 rfl (lv_at hl 0 rfl) ?_
  refine lv_bipush (v := 48) hx hb dX5_isDigit_1 (by decide) ?_
  refine lv_icmp_lt (tgt := 16) hx hb dX5_isDigit_3 (by decide) (fun c_1 => ?_) (fun c_1 => ?_)
  · skip
    have h_2 : rg (-2147483648) (47) p0 := by have ha := (rg_any p0); have hb_ := (rg_k (x := 48) (c := 48) (by decide)); simp only [rg, fa_lt, fa_le, fa_eq, (by decide : (48 : Int32).toInt = 48)] at ha hb_ c_1; simp only [rg]; omega
    refine lv_iconst (v := 0) hx hb dX5_isDigit_16 (by decide) ?_
    have hP9 := hP.sub (ws' := []) [] rfl
    have hD9 := hD.sub (ws' := []) [] (by decide) rfl
    exact W.zret (v := 0) hx hb hr (rfl) (fun t ht hW => ⟨⟨0, (), rfl, (rg_mono (rg_k (x := 0) (c := 0) (by decide)) (by decide) (by decide)), ⟨by rw [ht]; exact hP9, hD9⟩⟩, hS.F ht⟩) hS.2.2 dX5_isDigit_17
  · skip
    have h_3 : rg (48) (2147483647) p0 := by have ha := (rg_any p0); have hb_ := (rg_k (x := 48) (c := 48) (by decide)); simp only [rg, fa_lt, fa_le, fa_eq, (by decide : (48 : Int32).toInt = 48)] at ha hb_ c_1; simp only [rg]; omega
    refine lv_iload_n hx hb dX5_isDigit_6 rfl (lv_at hl 0 rfl) ?_
    refine lv_bipush (v := 57) hx hb dX5_isDigit_7 (by decide) ?_
    refine lv_icmp_gt (tgt := 16) hx hb dX5_isDigit_9 (by decide) (fun c_4 => ?_) (fun c_4 => ?_)
    · skip
      have h_5 : rg (58) (2147483647) p0 := by have ha := h_3; have hb_ := (rg_k (x := 57) (c := 57) (by decide)); simp only [rg, fa_lt, fa_le, fa_eq, (by decide : (57 : Int32).toInt = 57)] at ha hb_ c_4; simp only [rg]; omega
      refine lv_iconst (v := 0) hx hb dX5_isDigit_16 (by decide) ?_
      have hP9 := hP.sub (ws' := []) [] rfl
      have hD9 := hD.sub (ws' := []) [] (by decide) rfl
      exact W.zret (v := 0) hx hb hr (rfl) (fun t ht hW => ⟨⟨0, (), rfl, (rg_mono (rg_k (x := 0) (c := 0) (by decide)) (by decide) (by decide)), ⟨by rw [ht]; exact hP9, hD9⟩⟩, hS.F ht⟩) hS.2.2 dX5_isDigit_17
    · skip
      have h_6 : rg (48) (57) p0 := by have ha := h_3; have hb_ := (rg_k (x := 57) (c := 57) (by decide)); simp only [rg, fa_lt, fa_le, fa_eq, (by decide : (57 : Int32).toInt = 57)] at ha hb_ c_4; simp only [rg]; omega
      refine lv_iconst (v := 1) hx hb dX5_isDigit_12 (by decide) ?_
      refine lv_goto (tgt := 17) hx hb dX5_isDigit_13 (by decide) ?_
      have hP9 := hP.sub (ws' := []) [] rfl
      have hD9 := hD.sub (ws' := []) [] (by decide) rfl
      exact W.zret (v := 1) hx hb hr (rfl) (fun t ht hW => ⟨⟨1, (), rfl, (rg_mono (rg_k (x := 1) (c := 1) (by decide)) (by decide) (by decide)), ⟨by rw [ht]; exact hP9, hD9⟩⟩, hS.F ht⟩) hS.2.2 dX5_isDigit_17
def v_s_X5_step : List Cond := Cond.code yX5_step cX5_step 1 none :: ([Cond.fieldLink RX5 49 "MayRings$Reader" "fault" "I", Cond.fieldLink RX5 29 "MayRings$Reader" "here" "I", Cond.fieldLink RX5 25 "MayRings$Reader" "count" "I"] ++ (wsX50 ++ ([])))
theorem k_s_X5_step : GoodIn lw_tbl v_s_X5_step := gd_c (List.mem_of_getElem? (i := 706) (by decide +kernel)) rfl (goodIn_app (gd_c (List.mem_of_getElem? (i := 317) (by decide +kernel)) rfl (gd_c (List.mem_of_getElem? (i := 312) (by decide +kernel)) rfl (gd_c (List.mem_of_getElem? (i := 311) (by decide +kernel)) rfl (gd_nil)))) (goodIn_app kfX5 (gd_nil)))
set_option maxHeartbeats 2000000 in
set_option maxRecDepth 100000 in
theorem c_s_X5_step (l : Launch) (dC : Nat → ClassId) (dI : Nat → Nat → Nat) (cB cI cJ cZ cP : ClassId) (h0 : Nat) (h1 : Nat) (h2 : Nat) (h3 : Nat) (h4 : Nat) (a0 : Int32) (ha0 : rg (0) (1601) a0) (a1 : Int32) (ha1 : rg (0) (1600) a1) (h5 : Nat) (a9 : Int32) (a10 : Int32) (a11 : Int32) (a12 : Int32) (a13 : Int32) (sz : Nat) : Met l yX5_step v_s_X5_step ({ frames := 0, cells := 0, slots := 0, locals := 0 }) (va_Pc [.ref h0] (fun U => U.heap.size = sz ∧ va_P (dC, dI) vwCl [(h0, .inr (5, [.ref h1, .ref h2, .ref h3, .ref h4, .int a0, .int a1, .ref h5, .int a9, .int a10, .int a11, .int a12, .int a13]))] U.heap ∧ va_K (dC, dI) vwCl (ty5 cB cI cJ cZ cP) U ∧ va_D (fun _ => True) [(h0, .inr (5, [.ref h1, .ref h2, .ref h3, .ref h4, .int a0, .int a1, .ref h5, .int a9, .int a10, .int a11, .int a12, .int a13]))])) (va_Qv (fun _ : Unit => True) (fun _ t => ∃ (z0 : Int32), rg (0) (1600) z0 ∧ va_P (dC, dI) vwCl [(h0, .inr (5, [.ref h1, .ref h2, .ref h3, .ref h4, .int a0, .int z0, .ref h5, .int a9, .int a10, .int a11, .int a12, .int a13]))] t.heap ∧ va_D (va_A [(h0, .inr (5, [.ref h1, .ref h2, .ref h3, .ref h4, .int a0, .int a1, .ref h5, .int a9, .int a10, .int a11, .int a12, .int a13]))] sz) [(h0, .inr (5, [.ref h1, .ref h2, .ref h3, .ref h4, .int a0, .int z0, .ref h5, .int a9, .int a10, .int a11, .int a12, .int a13]))]) (va_A [(h0, .inr (5, [.ref h1, .ref h2, .ref h3, .ref h4, .int a0, .int a1, .ref h5, .int a9, .int a10, .int a11, .int a12, .int a13]))] sz)) 0 0 (va_A [(h0, .inr (5, [.ref h1, .ref h2, .ref h3, .ref h4, .int a0, .int a1, .ref h5, .int a9, .int a10, .int a11, .int a12, .int a13]))] sz) := by
  refine Met.ofW (cc := cX5_step) (maxL := 1) (ret := none) (by decide) rfl ?_
  intro p e s m args below meth c s₁ B hml hv
  obtain ⟨rfl, hsz, hP, hK, hD0⟩ := hv
  have hx := B.exec
  have hb := B.bytes
  have hr := B.returns
  have hts := atoms_spec (ws := v_s_X5_step) B.pre
  have hown : s.vm.findClass RX5 = some m.cls := findClass_of_methodNamed B.named
  have hlocks := B.notSynchronized
  have hinX5 : ∀ w ∈ wsX50, w ∈ v_s_X5_step := fun _ h => List.mem_cons_of_mem _ (List.mem_append_right _ (List.mem_append_left _ h))
  subst hsz
  have hD := hD0.self (sz := s.heap.size)
  generalize hAe : va_A [(h0, .inr (5, [.ref h1, .ref h2, .ref h3, .ref h4, .int a0, .int a1, .ref h5, .int a9, .int a10, .int a11, .int a12, .int a13]))] s.heap.size = A at hD ⊢
  have hA : ∀ q : Nat, s.heap.size ≤ q → A q := fun q h => by rw [← hAe]; exact Or.inr h
  have hP : va_P (dC, dI) vwCl [(h0, .inr (5, [.ref h1, .ref h2, .ref h3, .ref h4, .int a0, .int a1, .ref h5, .int a9, .int a10, .int a11, .int a12, .int a13]))] s.heap := hP
  have hl := lv_entry ([.ref h0]) (n := 1) (Nat.le_of_ble_eq_true rfl)
  rw [lg_entry_eq]
  generalize (lg_sl ([.ref h0]) ++ List.replicate (1 - (lg_sl ([.ref h0])).length) Slot.unset).toArray = ls at hl ⊢
  have hl : lv_has ls 1 [(0, .ref h0)] := hl
  refine W_gen (A := A) hP (fun H locs hP hS => ?_)
  refine lv_aload_n hx hb dX5_step_0 rfl (lv_at hl 0 rfl) ?_
  refine va_get (D := (dC, dI)) (ci := 5) (v := .int a12) (C := RX5) (T := TX5) (N := 12) hx hb hts hinX5 hown hK hP 0 rfl rfl 10 (by decide) (hts (.fieldLink RX5 49 "MayRings$Reader" "fault" "I") (List.mem_of_getElem? (i := 1) rfl)) (fun _ h9 => h9) rfl dX5_step_1 ?_
  refine lv_if_ne (tgt := 30) hx hb dX5_step_4 (by decide) (fun c_1 => ?_) (fun c_1 => ?_)
  · skip
    have hP9 := hP.sub (ws' := [(h0, .inr (5, [.ref h1, .ref h2, .ref h3, .ref h4, .int a0, .int a1, .ref h5, .int a9, .int a10, .int a11, .int a12, .int a13]))]) [0] rfl
    have hD9 := hD.sub (ws' := [(h0, .inr (5, [.ref h1, .ref h2, .ref h3, .ref h4, .int a0, .int a1, .ref h5, .int a9, .int a10, .int a11, .int a12, .int a13]))]) [0] (by decide) rfl
    exact W.vret hx hb hr (fun t ht hW => ⟨⟨(), rfl, trivial, ⟨a1, (rg_mono ha1 (by decide) (by decide)), by rw [ht]; exact hP9, hD9⟩⟩, hS.F ht⟩) hS.2.2 dX5_step_30
  · skip
    have h_2 : rg (0) (0) a12 := by have ha := (rg_any a12); have hb_ := (rg_k (x := 0) (c := 0) (by decide)); simp only [rg, fa_lt, fa_le, fa_eq, (by decide : (0 : Int32).toInt = 0)] at ha hb_ c_1; simp only [rg]; omega
    refine lv_aload_n hx hb dX5_step_7 rfl (lv_at hl 0 rfl) ?_
    refine va_get (D := (dC, dI)) (ci := 5) (v := .int a1) (C := RX5) (T := TX5) (N := 12) hx hb hts hinX5 hown hK hP 0 rfl rfl 5 (by decide) (hts (.fieldLink RX5 29 "MayRings$Reader" "here" "I") (List.mem_of_getElem? (i := 2) rfl)) (fun _ h9 => h9) rfl dX5_step_8 ?_
    refine lv_iconst (v := 1) hx hb dX5_step_11 (by decide) ?_
    refine lv_iadd hx hb dX5_step_12 ?_
    refine lv_topi (fun x_3 ex_3 => ?_)
    have hx_3 : rg (1) (1601) x_3 := by rw [ex_3]; exact rg_mono (rg_add ha1 (rg_k (x := 1) (c := 1) (by decide)) (by decide) (by decide)) (by decide) (by decide)
    have qx_3 : x_3.toInt = a1.toInt + (1) := by rw [ex_3]; exact rg_addE ha1 (rg_k (x := 1) (c := 1) (by decide)) (by decide) (by decide) trivial
    refine lv_aload_n hx hb dX5_step_13 rfl (lv_at hl 0 rfl) ?_
    refine va_get (D := (dC, dI)) (ci := 5) (v := .int a0) (C := RX5) (T := TX5) (N := 12) hx hb hts hinX5 hown hK hP 0 rfl rfl 4 (by decide) (hts (.fieldLink RX5 25 "MayRings$Reader" "count" "I") (List.mem_of_getElem? (i := 3) rfl)) (fun _ h9 => h9) rfl dX5_step_14 ?_
    refine lv_icmp_ge (tgt := 30) hx hb dX5_step_17 (by decide) (fun c_4 => ?_) (fun c_4 => ?_)
    · skip
      have hP9 := hP.sub (ws' := [(h0, .inr (5, [.ref h1, .ref h2, .ref h3, .ref h4, .int a0, .int a1, .ref h5, .int a9, .int a10, .int a11, .int a12, .int a13]))]) [0] rfl
      have hD9 := hD.sub (ws' := [(h0, .inr (5, [.ref h1, .ref h2, .ref h3, .ref h4, .int a0, .int a1, .ref h5, .int a9, .int a10, .int a11, .int a12, .int a13]))]) [0] (by decide) rfl
      exact W.vret hx hb hr (fun t ht hW => ⟨⟨(), rfl, trivial, ⟨a1, (rg_mono ha1 (by decide) (by decide)), by rw [ht]; exact hP9, hD9⟩⟩, hS.F ht⟩) hS.2.2 dX5_step_30
    · skip
      have h_5 : rg (1) (1600) x_3 := by have ha := hx_3; have hb_ := ha0; simp only [rg, fa_lt, fa_le, fa_eq] at ha hb_ c_4; simp only [rg]; omega
      have h_6 : rg (2) (1601) a0 := by have ha := hx_3; have hb_ := ha0; simp only [rg, fa_lt, fa_le, fa_eq] at ha hb_ c_4; simp only [rg]; omega
      refine lv_aload_n hx hb dX5_step_20 rfl (lv_at hl 0 rfl) ?_
      refine lv_dup hx hb dX5_step_21 rfl ?_
      refine va_get (D := (dC, dI)) (ci := 5) (v := .int a1) (C := RX5) (T := TX5) (N := 12) hx hb hts hinX5 hown hK hP 0 rfl rfl 5 (by decide) (hts (.fieldLink RX5 29 "MayRings$Reader" "here" "I") (List.mem_of_getElem? (i := 2) rfl)) (fun _ h9 => h9) rfl dX5_step_22 ?_
      refine lv_iconst (v := 1) hx hb dX5_step_25 (by decide) ?_
      refine lv_iadd hx hb dX5_step_26 ?_
      refine tp_v (.int x_3) (congrArg Value.int (ex_3.symm)) ?_
      refine va_put (D := (dC, dI)) (ci := 5) (v := .int x_3) (ty := .int) (C := RX5) (T := TX5) (N := 12) hx hb hts hinX5 tyX5 tyX5_ok nmX5 hown hK hP hD hS 0 rfl rfl 5 (by decide) (hts (.fieldLink RX5 29 "MayRings$Reader" "here" "I") (List.mem_of_getElem? (i := 2) rfl)) (fun _ h9 => h9) rfl (by decide +kernel) (rfl) (rfl) (Nat.le_of_ble_eq_true rfl) dX5_step_27 (fun H locs hP hD hS => ?_)
      have hP : va_P (dC, dI) vwCl [(h0, .inr (5, [.ref h1, .ref h2, .ref h3, .ref h4, .int a0, .int x_3, .ref h5, .int a9, .int a10, .int a11, .int a12, .int a13]))] H := hP
      have hD : va_D A [(h0, .inr (5, [.ref h1, .ref h2, .ref h3, .ref h4, .int a0, .int x_3, .ref h5, .int a9, .int a10, .int a11, .int a12, .int a13]))] := hD
      have hP9 := hP.sub (ws' := [(h0, .inr (5, [.ref h1, .ref h2, .ref h3, .ref h4, .int a0, .int x_3, .ref h5, .int a9, .int a10, .int a11, .int a12, .int a13]))]) [0] rfl
      have hD9 := hD.sub (ws' := [(h0, .inr (5, [.ref h1, .ref h2, .ref h3, .ref h4, .int a0, .int x_3, .ref h5, .int a9, .int a10, .int a11, .int a12, .int a13]))]) [0] (by decide) rfl
      exact W.vret hx hb hr (fun t ht hW => ⟨⟨(), rfl, trivial, ⟨x_3, (rg_mono h_5 (by decide) (by decide)), by rw [ht]; exact hP9, hD9⟩⟩, hS.F ht⟩) hS.2.2 dX5_step_30
def v_s_X5_refuse : List Cond := Cond.code yX5_refuse cX5_refuse 2 none :: ([Cond.fieldLink RX5 49 "MayRings$Reader" "fault" "I", Cond.fieldLink RX5 15 "MayRings$Reader" "kinds" "[I", Cond.fieldLink RX5 29 "MayRings$Reader" "here" "I", Cond.fieldLink RX5 19 "MayRings$Reader" "places" "[I", Cond.fieldLink RX5 52 "MayRings$Reader" "faultPlace" "I"] ++ (wsX50 ++ ([])))
theorem k_s_X5_refuse : GoodIn lw_tbl v_s_X5_refuse := gd_c (List.mem_of_getElem? (i := 702) (by decide +kernel)) rfl (goodIn_app (gd_c (List.mem_of_getElem? (i := 317) (by decide +kernel)) rfl (gd_c (List.mem_of_getElem? (i := 308) (by decide +kernel)) rfl (gd_c (List.mem_of_getElem? (i := 312) (by decide +kernel)) rfl (gd_c (List.mem_of_getElem? (i := 309) (by decide +kernel)) rfl (gd_c (List.mem_of_getElem? (i := 319) (by decide +kernel)) rfl (gd_nil)))))) (goodIn_app kfX5 (gd_nil)))
set_option maxHeartbeats 2000000 in
set_option maxRecDepth 100000 in
theorem c_s_X5_refuse (l : Launch) (dC : Nat → ClassId) (dI : Nat → Nat → Nat) (cB cI cJ cZ cP : ClassId) (h0 : Nat) (h1 : Nat) (h2 : Nat) (g1 : Nat → Int32) (h3 : Nat) (g2 : Nat → Int32) (h4 : Nat) (a0 : Int32) (a1 : Int32) (ha1 : rg (0) (1600) a1) (h5 : Nat) (a9 : Int32) (a10 : Int32) (a11 : Int32) (a12 : Int32) (a13 : Int32) (p0 : Int32) (sz : Nat) : Met l yX5_refuse v_s_X5_refuse ({ frames := 0, cells := 0, slots := 0, locals := 0 }) (va_Pc [.ref h0, .int p0] (fun U => U.heap.size = sz ∧ va_P (dC, dI) vwCl [(h0, .inr (5, [.ref h1, .ref h2, .ref h3, .ref h4, .int a0, .int a1, .ref h5, .int a9, .int a10, .int a11, .int a12, .int a13])), (h2, .inl (cI, 1601, .inl g1)), (h3, .inl (cI, 1601, .inl g2))] U.heap ∧ va_K (dC, dI) vwCl (ty5 cB cI cJ cZ cP) U ∧ va_D (fun _ => True) [(h0, .inr (5, [.ref h1, .ref h2, .ref h3, .ref h4, .int a0, .int a1, .ref h5, .int a9, .int a10, .int a11, .int a12, .int a13])), (h2, .inl (cI, 1601, .inl g1)), (h3, .inl (cI, 1601, .inl g2))])) (va_Qv (fun _ : Unit => True) (fun _ t => ∃ (z0 : Int32) (z1 : Int32), va_P (dC, dI) vwCl [(h0, .inr (5, [.ref h1, .ref h2, .ref h3, .ref h4, .int a0, .int a1, .ref h5, .int a9, .int a10, .int a11, .int z0, .int z1])), (h2, .inl (cI, 1601, .inl g1)), (h3, .inl (cI, 1601, .inl g2))] t.heap ∧ va_D (va_A [(h0, .inr (5, [.ref h1, .ref h2, .ref h3, .ref h4, .int a0, .int a1, .ref h5, .int a9, .int a10, .int a11, .int a12, .int a13])), (h2, .inl (cI, 1601, .inl g1)), (h3, .inl (cI, 1601, .inl g2))] sz) [(h0, .inr (5, [.ref h1, .ref h2, .ref h3, .ref h4, .int a0, .int a1, .ref h5, .int a9, .int a10, .int a11, .int z0, .int z1])), (h2, .inl (cI, 1601, .inl g1)), (h3, .inl (cI, 1601, .inl g2))]) (va_A [(h0, .inr (5, [.ref h1, .ref h2, .ref h3, .ref h4, .int a0, .int a1, .ref h5, .int a9, .int a10, .int a11, .int a12, .int a13])), (h2, .inl (cI, 1601, .inl g1)), (h3, .inl (cI, 1601, .inl g2))] sz)) 0 0 (va_A [(h0, .inr (5, [.ref h1, .ref h2, .ref h3, .ref h4, .int a0, .int a1, .ref h5, .int a9, .int a10, .int a11, .int a12, .int a13])), (h2, .inl (cI, 1601, .inl g1)), (h3, .inl (cI, 1601, .inl g2))] sz) := by
  refine Met.ofW (cc := cX5_refuse) (maxL := 2) (ret := none) (by decide) rfl ?_
  intro p e s m args below meth c s₁ B hml hv
  obtain ⟨rfl, hsz, hP, hK, hD0⟩ := hv
  have hx := B.exec
  have hb := B.bytes
  have hr := B.returns
  have hts := atoms_spec (ws := v_s_X5_refuse) B.pre
  have hown : s.vm.findClass RX5 = some m.cls := findClass_of_methodNamed B.named
  have hlocks := B.notSynchronized
  have hinX5 : ∀ w ∈ wsX50, w ∈ v_s_X5_refuse := fun _ h => List.mem_cons_of_mem _ (List.mem_append_right _ (List.mem_append_left _ h))
  subst hsz
  have hD := hD0.self (sz := s.heap.size)
  generalize hAe : va_A [(h0, .inr (5, [.ref h1, .ref h2, .ref h3, .ref h4, .int a0, .int a1, .ref h5, .int a9, .int a10, .int a11, .int a12, .int a13])), (h2, .inl (cI, 1601, .inl g1)), (h3, .inl (cI, 1601, .inl g2))] s.heap.size = A at hD ⊢
  have hA : ∀ q : Nat, s.heap.size ≤ q → A q := fun q h => by rw [← hAe]; exact Or.inr h
  have hP : va_P (dC, dI) vwCl [(h0, .inr (5, [.ref h1, .ref h2, .ref h3, .ref h4, .int a0, .int a1, .ref h5, .int a9, .int a10, .int a11, .int a12, .int a13])), (h2, .inl (cI, 1601, .inl g1)), (h3, .inl (cI, 1601, .inl g2))] s.heap := hP
  have hl := lv_entry ([.ref h0, .int p0]) (n := 2) (Nat.le_of_ble_eq_true rfl)
  rw [lg_entry_eq]
  generalize (lg_sl ([.ref h0, .int p0]) ++ List.replicate (2 - (lg_sl ([.ref h0, .int p0])).length) Slot.unset).toArray = ls at hl ⊢
  have hl : lv_has ls 2 [(0, .ref h0), (1, .int p0)] := hl
  refine W_gen (A := A) hP (fun H locs hP hS => ?_)
  refine lv_aload_n hx hb dX5_refuse_0 rfl (lv_at hl 0 rfl) ?_
  refine va_get (D := (dC, dI)) (ci := 5) (v := .int a12) (C := RX5) (T := TX5) (N := 12) hx hb hts hinX5 hown hK hP 0 rfl rfl 10 (by decide) (hts (.fieldLink RX5 49 "MayRings$Reader" "fault" "I") (List.mem_of_getElem? (i := 1) rfl)) (fun _ h9 => h9) rfl dX5_refuse_1 ?_
  refine lv_if_ne (tgt := 43) hx hb dX5_refuse_4 (by decide) (fun c_1 => ?_) (fun c_1 => ?_)
  · skip
    have hP9 := hP.sub (ws' := [(h0, .inr (5, [.ref h1, .ref h2, .ref h3, .ref h4, .int a0, .int a1, .ref h5, .int a9, .int a10, .int a11, .int a12, .int a13])), (h2, .inl (cI, 1601, .inl g1)), (h3, .inl (cI, 1601, .inl g2))]) [0, 1, 2] rfl
    have hD9 := hD.sub (ws' := [(h0, .inr (5, [.ref h1, .ref h2, .ref h3, .ref h4, .int a0, .int a1, .ref h5, .int a9, .int a10, .int a11, .int a12, .int a13])), (h2, .inl (cI, 1601, .inl g1)), (h3, .inl (cI, 1601, .inl g2))]) [0, 1, 2] (by decide) rfl
    exact W.vret hx hb hr (fun t ht hW => ⟨⟨(), rfl, trivial, ⟨a12, a13, by rw [ht]; exact hP9, hD9⟩⟩, hS.F ht⟩) hS.2.2 dX5_refuse_43
  · skip
    have h_2 : rg (0) (0) a12 := by have ha := (rg_any a12); have hb_ := (rg_k (x := 0) (c := 0) (by decide)); simp only [rg, fa_lt, fa_le, fa_eq, (by decide : (0 : Int32).toInt = 0)] at ha hb_ c_1; simp only [rg]; omega
    refine lv_aload_n hx hb dX5_refuse_7 rfl (lv_at hl 0 rfl) ?_
    refine lv_aload_n hx hb dX5_refuse_8 rfl (lv_at hl 0 rfl) ?_
    refine va_get (D := (dC, dI)) (ci := 5) (v := .ref h2) (C := RX5) (T := TX5) (N := 12) hx hb hts hinX5 hown hK hP 0 rfl rfl 1 (by decide) (hts (.fieldLink RX5 15 "MayRings$Reader" "kinds" "[I") (List.mem_of_getElem? (i := 2) rfl)) (fun _ h9 => h9) rfl dX5_refuse_9 ?_
    refine lv_aload_n hx hb dX5_refuse_12 rfl (lv_at hl 0 rfl) ?_
    refine va_get (D := (dC, dI)) (ci := 5) (v := .int a1) (C := RX5) (T := TX5) (N := 12) hx hb hts hinX5 hown hK hP 0 rfl rfl 5 (by decide) (hts (.fieldLink RX5 29 "MayRings$Reader" "here" "I") (List.mem_of_getElem? (i := 3) rfl)) (fun _ h9 => h9) rfl dX5_refuse_13 ?_
    refine va_iald hx hb hK hP 1 1 rfl rfl (rg_in (n := 1601) (rg_mono ha1 (by decide) (by decide))) dX5_refuse_16 ?_
    refine lv_topi (fun x_3 ex_3 => ?_)
    refine lv_bipush (v := 29) hx hb dX5_refuse_17 (by decide) ?_
    refine lv_icmp_ne (tgt := 26) hx hb dX5_refuse_19 (by decide) (fun c_4 => ?_) (fun c_4 => ?_)
    · skip
      refine lv_iload_n hx hb dX5_refuse_26 rfl (lv_at hl 1 rfl) ?_
      refine va_put (D := (dC, dI)) (ci := 5) (v := .int p0) (ty := .int) (C := RX5) (T := TX5) (N := 12) hx hb hts hinX5 tyX5 tyX5_ok nmX5 hown hK hP hD hS 0 rfl rfl 10 (by decide) (hts (.fieldLink RX5 49 "MayRings$Reader" "fault" "I") (List.mem_of_getElem? (i := 1) rfl)) (fun _ h9 => h9) rfl (by decide +kernel) (rfl) (rfl) (Nat.le_of_ble_eq_true rfl) dX5_refuse_27 (fun H locs hP hD hS => ?_)
      have hP : va_P (dC, dI) vwCl [(h0, .inr (5, [.ref h1, .ref h2, .ref h3, .ref h4, .int a0, .int a1, .ref h5, .int a9, .int a10, .int a11, .int p0, .int a13])), (h2, .inl (cI, 1601, .inl g1)), (h3, .inl (cI, 1601, .inl g2))] H := hP
      have hD : va_D A [(h0, .inr (5, [.ref h1, .ref h2, .ref h3, .ref h4, .int a0, .int a1, .ref h5, .int a9, .int a10, .int a11, .int p0, .int a13])), (h2, .inl (cI, 1601, .inl g1)), (h3, .inl (cI, 1601, .inl g2))] := hD
      refine lv_aload_n hx hb dX5_refuse_30 rfl (lv_at hl 0 rfl) ?_
      refine lv_aload_n hx hb dX5_refuse_31 rfl (lv_at hl 0 rfl) ?_
      refine va_get (D := (dC, dI)) (ci := 5) (v := .ref h3) (C := RX5) (T := TX5) (N := 12) hx hb hts hinX5 hown hK hP 0 rfl rfl 2 (by decide) (hts (.fieldLink RX5 19 "MayRings$Reader" "places" "[I") (List.mem_of_getElem? (i := 4) rfl)) (fun _ h9 => h9) rfl dX5_refuse_32 ?_
      refine lv_aload_n hx hb dX5_refuse_35 rfl (lv_at hl 0 rfl) ?_
      refine va_get (D := (dC, dI)) (ci := 5) (v := .int a1) (C := RX5) (T := TX5) (N := 12) hx hb hts hinX5 hown hK hP 0 rfl rfl 5 (by decide) (hts (.fieldLink RX5 29 "MayRings$Reader" "here" "I") (List.mem_of_getElem? (i := 3) rfl)) (fun _ h9 => h9) rfl dX5_refuse_36 ?_
      refine va_iald hx hb hK hP 2 1 rfl rfl (rg_in (n := 1601) (rg_mono ha1 (by decide) (by decide))) dX5_refuse_39 ?_
      refine lv_topi (fun x_5 ex_5 => ?_)
      refine va_put (D := (dC, dI)) (ci := 5) (v := .int x_5) (ty := .int) (C := RX5) (T := TX5) (N := 12) hx hb hts hinX5 tyX5 tyX5_ok nmX5 hown hK hP hD hS 0 rfl rfl 11 (by decide) (hts (.fieldLink RX5 52 "MayRings$Reader" "faultPlace" "I") (List.mem_of_getElem? (i := 5) rfl)) (fun _ h9 => h9) rfl (by decide +kernel) (rfl) (rfl) (Nat.le_of_ble_eq_true rfl) dX5_refuse_40 (fun H locs hP hD hS => ?_)
      have hP : va_P (dC, dI) vwCl [(h0, .inr (5, [.ref h1, .ref h2, .ref h3, .ref h4, .int a0, .int a1, .ref h5, .int a9, .int a10, .int a11, .int p0, .int x_5])), (h2, .inl (cI, 1601, .inl g1)), (h3, .inl (cI, 1601, .inl g2))] H := hP
      have hD : va_D A [(h0, .inr (5, [.ref h1, .ref h2, .ref h3, .ref h4, .int a0, .int a1, .ref h5, .int a9, .int a10, .int a11, .int p0, .int x_5])), (h2, .inl (cI, 1601, .inl g1)), (h3, .inl (cI, 1601, .inl g2))] := hD
      have hP9 := hP.sub (ws' := [(h0, .inr (5, [.ref h1, .ref h2, .ref h3, .ref h4, .int a0, .int a1, .ref h5, .int a9, .int a10, .int a11, .int p0, .int x_5])), (h2, .inl (cI, 1601, .inl g1)), (h3, .inl (cI, 1601, .inl g2))]) [0, 1, 2] rfl
      have hD9 := hD.sub (ws' := [(h0, .inr (5, [.ref h1, .ref h2, .ref h3, .ref h4, .int a0, .int a1, .ref h5, .int a9, .int a10, .int a11, .int p0, .int x_5])), (h2, .inl (cI, 1601, .inl g1)), (h3, .inl (cI, 1601, .inl g2))]) [0, 1, 2] (by decide) rfl
      exact W.vret hx hb hr (fun t ht hW => ⟨⟨(), rfl, trivial, ⟨p0, x_5, by rw [ht]; exact hP9, hD9⟩⟩, hS.F ht⟩) hS.2.2 dX5_refuse_43
    · skip
      have h_6 : rg (29) (29) x_3 := by have ha := (rg_any x_3); have hb_ := (rg_k (x := 29) (c := 29) (by decide)); simp only [rg, fa_lt, fa_le, fa_eq, (by decide : (29 : Int32).toInt = 29)] at ha hb_ c_4; simp only [rg]; omega
      refine lv_iconst (v := 1) hx hb dX5_refuse_22 (by decide) ?_
      refine lv_goto (tgt := 27) hx hb dX5_refuse_23 (by decide) ?_
      refine va_put (D := (dC, dI)) (ci := 5) (v := .int 1) (ty := .int) (C := RX5) (T := TX5) (N := 12) hx hb hts hinX5 tyX5 tyX5_ok nmX5 hown hK hP hD hS 0 rfl rfl 10 (by decide) (hts (.fieldLink RX5 49 "MayRings$Reader" "fault" "I") (List.mem_of_getElem? (i := 1) rfl)) (fun _ h9 => h9) rfl (by decide +kernel) (rfl) (rfl) (Nat.le_of_ble_eq_true rfl) dX5_refuse_27 (fun H locs hP hD hS => ?_)
      have hP : va_P (dC, dI) vwCl [(h0, .inr (5, [.ref h1, .ref h2, .ref h3, .ref h4, .int a0, .int a1, .ref h5, .int a9, .int a10, .int a11, .int 1, .int a13])), (h2, .inl (cI, 1601, .inl g1)), (h3, .inl (cI, 1601, .inl g2))] H := hP
      have hD : va_D A [(h0, .inr (5, [.ref h1, .ref h2, .ref h3, .ref h4, .int a0, .int a1, .ref h5, .int a9, .int a10, .int a11, .int 1, .int a13])), (h2, .inl (cI, 1601, .inl g1)), (h3, .inl (cI, 1601, .inl g2))] := hD
      refine lv_aload_n hx hb dX5_refuse_30 rfl (lv_at hl 0 rfl) ?_
      refine lv_aload_n hx hb dX5_refuse_31 rfl (lv_at hl 0 rfl) ?_
      refine va_get (D := (dC, dI)) (ci := 5) (v := .ref h3) (C := RX5) (T := TX5) (N := 12) hx hb hts hinX5 hown hK hP 0 rfl rfl 2 (by decide) (hts (.fieldLink RX5 19 "MayRings$Reader" "places" "[I") (List.mem_of_getElem? (i := 4) rfl)) (fun _ h9 => h9) rfl dX5_refuse_32 ?_
      refine lv_aload_n hx hb dX5_refuse_35 rfl (lv_at hl 0 rfl) ?_
      refine va_get (D := (dC, dI)) (ci := 5) (v := .int a1) (C := RX5) (T := TX5) (N := 12) hx hb hts hinX5 hown hK hP 0 rfl rfl 5 (by decide) (hts (.fieldLink RX5 29 "MayRings$Reader" "here" "I") (List.mem_of_getElem? (i := 3) rfl)) (fun _ h9 => h9) rfl dX5_refuse_36 ?_
      refine va_iald hx hb hK hP 2 1 rfl rfl (rg_in (n := 1601) (rg_mono ha1 (by decide) (by decide))) dX5_refuse_39 ?_
      refine lv_topi (fun x_7 ex_7 => ?_)
      refine va_put (D := (dC, dI)) (ci := 5) (v := .int x_7) (ty := .int) (C := RX5) (T := TX5) (N := 12) hx hb hts hinX5 tyX5 tyX5_ok nmX5 hown hK hP hD hS 0 rfl rfl 11 (by decide) (hts (.fieldLink RX5 52 "MayRings$Reader" "faultPlace" "I") (List.mem_of_getElem? (i := 5) rfl)) (fun _ h9 => h9) rfl (by decide +kernel) (rfl) (rfl) (Nat.le_of_ble_eq_true rfl) dX5_refuse_40 (fun H locs hP hD hS => ?_)
      have hP : va_P (dC, dI) vwCl [(h0, .inr (5, [.ref h1, .ref h2, .ref h3, .ref h4, .int a0, .int a1, .ref h5, .int a9, .int a10, .int a11, .int 1, .int x_7])), (h2, .inl (cI, 1601, .inl g1)), (h3, .inl (cI, 1601, .inl g2))] H := hP
      have hD : va_D A [(h0, .inr (5, [.ref h1, .ref h2, .ref h3, .ref h4, .int a0, .int a1, .ref h5, .int a9, .int a10, .int a11, .int 1, .int x_7])), (h2, .inl (cI, 1601, .inl g1)), (h3, .inl (cI, 1601, .inl g2))] := hD
      have hP9 := hP.sub (ws' := [(h0, .inr (5, [.ref h1, .ref h2, .ref h3, .ref h4, .int a0, .int a1, .ref h5, .int a9, .int a10, .int a11, .int 1, .int x_7])), (h2, .inl (cI, 1601, .inl g1)), (h3, .inl (cI, 1601, .inl g2))]) [0, 1, 2] rfl
      have hD9 := hD.sub (ws' := [(h0, .inr (5, [.ref h1, .ref h2, .ref h3, .ref h4, .int a0, .int a1, .ref h5, .int a9, .int a10, .int a11, .int 1, .int x_7])), (h2, .inl (cI, 1601, .inl g1)), (h3, .inl (cI, 1601, .inl g2))]) [0, 1, 2] (by decide) rfl
      exact W.vret hx hb hr (fun t ht hW => ⟨⟨(), rfl, trivial, ⟨1, x_7, by rw [ht]; exact hP9, hD9⟩⟩, hS.F ht⟩) hS.2.2 dX5_refuse_43
def v_s_X5_begin : List Cond := Cond.code yX5_begin cX5_begin 2 none :: ([Cond.methodLink RX5 122 yX5_step, Cond.instanceMethod yX5_step, Cond.selects RX5 yX5_step yX5_step, Cond.initialized RX5, Cond.methodLink RX5 118 yX5_refuse, Cond.instanceMethod yX5_refuse, Cond.selects RX5 yX5_refuse yX5_refuse] ++ (v_s_X5_step ++ (v_s_X5_refuse ++ ([]))))
theorem k_s_X5_begin : GoodIn lw_tbl v_s_X5_begin := gd_c (List.mem_of_getElem? (i := 698) (by decide +kernel)) rfl (goodIn_app (gd_c (List.mem_of_getElem? (i := 703) (by decide +kernel)) rfl (gd_c (List.mem_of_getElem? (i := 705) (by decide +kernel)) rfl (gd_c (List.mem_of_getElem? (i := 11) (by decide +kernel)) rfl (gd_c (List.mem_of_getElem? (i := 131) (by decide +kernel)) rfl (gd_c (List.mem_of_getElem? (i := 699) (by decide +kernel)) rfl (gd_c (List.mem_of_getElem? (i := 701) (by decide +kernel)) rfl (gd_c (List.mem_of_getElem? (i := 10) (by decide +kernel)) rfl (gd_nil)))))))) (goodIn_app k_s_X5_step (goodIn_app k_s_X5_refuse (gd_nil))))
set_option maxHeartbeats 2000000 in
set_option maxRecDepth 100000 in
theorem c_s_X5_begin (l : Launch) (dC : Nat → ClassId) (dI : Nat → Nat → Nat) (cB cI cJ cZ cP : ClassId) (h0 : Nat) (h1 : Nat) (h2 : Nat) (g1 : Nat → Int32) (h3 : Nat) (g2 : Nat → Int32) (h4 : Nat) (a0 : Int32) (ha0 : rg (0) (1601) a0) (a1 : Int32) (ha1 : rg (0) (1600) a1) (h5 : Nat) (a9 : Int32) (a10 : Int32) (a11 : Int32) (a12 : Int32) (a13 : Int32) (p0 : Int32) (hp0 : rg (0) (1) p0) (sz : Nat) : Met l yX5_begin v_s_X5_begin ({ frames := 1, cells := 0, slots := 0, locals := 21 }) (va_Pc [.ref h0, .int p0] (fun U => U.heap.size = sz ∧ va_P (dC, dI) vwCl [(h0, .inr (5, [.ref h1, .ref h2, .ref h3, .ref h4, .int a0, .int a1, .ref h5, .int a9, .int a10, .int a11, .int a12, .int a13])), (h2, .inl (cI, 1601, .inl g1)), (h3, .inl (cI, 1601, .inl g2))] U.heap ∧ va_K (dC, dI) vwCl (ty5 cB cI cJ cZ cP) U ∧ va_D (fun _ => True) [(h0, .inr (5, [.ref h1, .ref h2, .ref h3, .ref h4, .int a0, .int a1, .ref h5, .int a9, .int a10, .int a11, .int a12, .int a13])), (h2, .inl (cI, 1601, .inl g1)), (h3, .inl (cI, 1601, .inl g2))])) (va_Qv (fun _ : Unit => True) (fun _ t => ∃ (z0 : Int32) (z1 : Int32) (z2 : Int32), rg (0) (1600) z0 ∧ va_P (dC, dI) vwCl [(h0, .inr (5, [.ref h1, .ref h2, .ref h3, .ref h4, .int a0, .int z0, .ref h5, .int a9, .int a10, .int a11, .int z1, .int z2])), (h2, .inl (cI, 1601, .inl g1)), (h3, .inl (cI, 1601, .inl g2))] t.heap ∧ va_D (va_A [(h0, .inr (5, [.ref h1, .ref h2, .ref h3, .ref h4, .int a0, .int a1, .ref h5, .int a9, .int a10, .int a11, .int a12, .int a13])), (h2, .inl (cI, 1601, .inl g1)), (h3, .inl (cI, 1601, .inl g2))] sz) [(h0, .inr (5, [.ref h1, .ref h2, .ref h3, .ref h4, .int a0, .int z0, .ref h5, .int a9, .int a10, .int a11, .int z1, .int z2])), (h2, .inl (cI, 1601, .inl g1)), (h3, .inl (cI, 1601, .inl g2))]) (va_A [(h0, .inr (5, [.ref h1, .ref h2, .ref h3, .ref h4, .int a0, .int a1, .ref h5, .int a9, .int a10, .int a11, .int a12, .int a13])), (h2, .inl (cI, 1601, .inl g1)), (h3, .inl (cI, 1601, .inl g2))] sz)) 0 0 (va_A [(h0, .inr (5, [.ref h1, .ref h2, .ref h3, .ref h4, .int a0, .int a1, .ref h5, .int a9, .int a10, .int a11, .int a12, .int a13])), (h2, .inl (cI, 1601, .inl g1)), (h3, .inl (cI, 1601, .inl g2))] sz) := by
  refine Met.ofW (cc := cX5_begin) (maxL := 2) (ret := none) (by decide) rfl ?_
  intro p e s m args below meth c s₁ B hml hv
  obtain ⟨rfl, hsz, hP, hK, hD0⟩ := hv
  have hx := B.exec
  have hb := B.bytes
  have hr := B.returns
  have hts := atoms_spec (ws := v_s_X5_begin) B.pre
  have hown : s.vm.findClass RX5 = some m.cls := findClass_of_methodNamed B.named
  have hlocks := B.notSynchronized
  subst hsz
  have hD := hD0.self (sz := s.heap.size)
  generalize hAe : va_A [(h0, .inr (5, [.ref h1, .ref h2, .ref h3, .ref h4, .int a0, .int a1, .ref h5, .int a9, .int a10, .int a11, .int a12, .int a13])), (h2, .inl (cI, 1601, .inl g1)), (h3, .inl (cI, 1601, .inl g2))] s.heap.size = A at hD ⊢
  have hA : ∀ q : Nat, s.heap.size ≤ q → A q := fun q h => by rw [← hAe]; exact Or.inr h
  have hP : va_P (dC, dI) vwCl [(h0, .inr (5, [.ref h1, .ref h2, .ref h3, .ref h4, .int a0, .int a1, .ref h5, .int a9, .int a10, .int a11, .int a12, .int a13])), (h2, .inl (cI, 1601, .inl g1)), (h3, .inl (cI, 1601, .inl g2))] s.heap := hP
  have hl := lv_entry ([.ref h0, .int p0]) (n := 2) (Nat.le_of_ble_eq_true rfl)
  rw [lg_entry_eq]
  generalize (lg_sl ([.ref h0, .int p0]) ++ List.replicate (2 - (lg_sl ([.ref h0, .int p0])).length) Slot.unset).toArray = ls at hl ⊢
  have hl : lv_has ls 2 [(0, .ref h0), (1, .int p0)] := hl
  refine W_gen (A := A) hP (fun H locs hP hS => ?_)
  refine lv_iload_n hx hb dX5_begin_0 rfl (lv_at hl 1 rfl) ?_
  refine lv_if_ne (tgt := 9) hx hb dX5_begin_1 (by decide) (fun c_1 => ?_) (fun c_1 => ?_)
  · skip
    have h_2 : rg (1) (1) p0 := by have ha := hp0; have hb_ := (rg_k (x := 0) (c := 0) (by decide)); simp only [rg, fa_lt, fa_le, fa_eq, (by decide : (0 : Int32).toInt = 0)] at ha hb_ c_1; simp only [rg]; omega
    refine lv_aload_n hx hb dX5_begin_9 rfl (lv_at hl 0 rfl) ?_
    have hPc := hP.sub (ws' := [(h0, .inr (5, [.ref h1, .ref h2, .ref h3, .ref h4, .int a0, .int a1, .ref h5, .int a9, .int a10, .int a11, .int a12, .int a13]))]) [0] rfl
    have hDc := hD.sub (ws' := [(h0, .inr (5, [.ref h1, .ref h2, .ref h3, .ref h4, .int a0, .int a1, .ref h5, .int a9, .int a10, .int a11, .int a12, .int a13]))]) [0] (by decide) rfl
    have hFc := va_free (wc := [(h0, .inr (5, [.ref h1, .ref h2, .ref h3, .ref h4, .int a0, .int a1, .ref h5, .int a9, .int a10, .int a11, .int a12, .int a13]))]) hD hS hA [0] rfl
    refine va_callv (va_runV (As := []) (rest := []) ⟨hx, hb, hml, hown, hts⟩ (c_s_X5_step l dC dI cB cI cJ cZ cP h0 h1 h2 h3 h4 a0 (rg_mono ha0 (by decide) (by decide)) a1 (rg_mono ha1 (by decide) (by decide)) h5 a9 a10 a11 a12 a13 H.size) (cwV 0 hts (gd_V (List.mem_of_getElem? (i := 1) rfl) (List.mem_of_getElem? (i := 2) rfl) (List.mem_of_getElem? (i := 3) rfl) (List.mem_of_getElem? (i := 4) rfl) (gd_mono k_s_X5_step (fun _ h => List.mem_cons_of_mem _ (List.mem_append_right _ (List.mem_append_left _ h))))) rfl rfl rfl (by decide +kernel) ⟨Nat.le_of_ble_eq_true rfl, Nat.le_of_ble_eq_true rfl⟩) ⟨fun a U g mk q => by obtain ⟨q0, q1, qP, qK, qD⟩ := q; exact ⟨q0, q1, qP, va_K.moved (u := U) (U := U.calling g mk a) (Vm.Alike.refl U.vm) qK, qD⟩, va_recv hK hPc (ci := 5) (q0 := 0) rfl rfl, fun U hU hW => ⟨rfl, by rw [hU], by rw [hU]; exact hPc, va_K.moved hW.alike hK, hDc.weaken (fun _ _ _ _ => trivial)⟩⟩ rfl rfl hl.1 rfl (lv_room (Nat.le_of_ble_eq_true rfl)) dX5_begin_10 ⟨Nat.le_of_ble_eq_true rfl, Nat.le_of_ble_eq_true rfl⟩) hS (fun q _ h => hFc q h) hFc (fun u t H1 locs ht hvm hw hB hz1 hk1 hS => ?_)
    obtain ⟨x_4, hx_4, hP1, hD1⟩ := hB
    rw [ht] at hP1
    obtain ⟨hP, hD⟩ := va_join (wr := [(h2, .inl (cI, 1601, .inl g1)), (h3, .inl (cI, 1601, .inl g2))]) (w1 := [(h0, .inr (5, [.ref h1, .ref h2, .ref h3, .ref h4, .int a0, .int x_4, .ref h5, .int a9, .int a10, .int a11, .int a12, .int a13]))]) hP hD [0] [1, 2] rfl rfl (by decide) (by decide) hk1 hFc hP1 hD1
    generalize H1 = H at hP hS ⊢
    have hP : va_P (dC, dI) vwCl [(h2, .inl (cI, 1601, .inl g1)), (h3, .inl (cI, 1601, .inl g2)), (h0, .inr (5, [.ref h1, .ref h2, .ref h3, .ref h4, .int a0, .int x_4, .ref h5, .int a9, .int a10, .int a11, .int a12, .int a13]))] H := hP
    have hD : va_D A [(h2, .inl (cI, 1601, .inl g1)), (h3, .inl (cI, 1601, .inl g2)), (h0, .inr (5, [.ref h1, .ref h2, .ref h3, .ref h4, .int a0, .int x_4, .ref h5, .int a9, .int a10, .int a11, .int a12, .int a13]))] := hD
    have hP9 := hP.sub (ws' := [(h0, .inr (5, [.ref h1, .ref h2, .ref h3, .ref h4, .int a0, .int x_4, .ref h5, .int a9, .int a10, .int a11, .int a12, .int a13])), (h2, .inl (cI, 1601, .inl g1)), (h3, .inl (cI, 1601, .inl g2))]) [2, 0, 1] rfl
    have hD9 := hD.sub (ws' := [(h0, .inr (5, [.ref h1, .ref h2, .ref h3, .ref h4, .int a0, .int x_4, .ref h5, .int a9, .int a10, .int a11, .int a12, .int a13])), (h2, .inl (cI, 1601, .inl g1)), (h3, .inl (cI, 1601, .inl g2))]) [2, 0, 1] (by decide) rfl
    exact W.vret hx hb hr (fun t ht hW => ⟨⟨(), rfl, trivial, ⟨x_4, a12, a13, (rg_mono hx_4 (by decide) (by decide)), by rw [ht]; exact hP9, hD9⟩⟩, hS.F ht⟩) hS.2.2 dX5_begin_13
  · skip
    have h_5 : rg (0) (0) p0 := by have ha := hp0; have hb_ := (rg_k (x := 0) (c := 0) (by decide)); simp only [rg, fa_lt, fa_le, fa_eq, (by decide : (0 : Int32).toInt = 0)] at ha hb_ c_1; simp only [rg]; omega
    refine lv_aload_n hx hb dX5_begin_4 rfl (lv_at hl 0 rfl) ?_
    refine lv_iconst (v := 2) hx hb dX5_begin_5 (by decide) ?_
    have hPc := hP.sub (ws' := [(h0, .inr (5, [.ref h1, .ref h2, .ref h3, .ref h4, .int a0, .int a1, .ref h5, .int a9, .int a10, .int a11, .int a12, .int a13])), (h2, .inl (cI, 1601, .inl g1)), (h3, .inl (cI, 1601, .inl g2))]) [0, 1, 2] rfl
    have hDc := hD.sub (ws' := [(h0, .inr (5, [.ref h1, .ref h2, .ref h3, .ref h4, .int a0, .int a1, .ref h5, .int a9, .int a10, .int a11, .int a12, .int a13])), (h2, .inl (cI, 1601, .inl g1)), (h3, .inl (cI, 1601, .inl g2))]) [0, 1, 2] (by decide) rfl
    have hFc := va_free (wc := [(h0, .inr (5, [.ref h1, .ref h2, .ref h3, .ref h4, .int a0, .int a1, .ref h5, .int a9, .int a10, .int a11, .int a12, .int a13])), (h2, .inl (cI, 1601, .inl g1)), (h3, .inl (cI, 1601, .inl g2))]) hD hS hA [0, 1, 2] rfl
    refine va_callv (va_runV (As := [.int 2]) (rest := []) ⟨hx, hb, hml, hown, hts⟩ (c_s_X5_refuse l dC dI cB cI cJ cZ cP h0 h1 h2 g1 h3 g2 h4 a0 a1 (rg_mono ha1 (by decide) (by decide)) h5 a9 a10 a11 a12 a13 2 H.size) (cwV 1 hts (gd_V (List.mem_of_getElem? (i := 5) rfl) (List.mem_of_getElem? (i := 6) rfl) (List.mem_of_getElem? (i := 7) rfl) (List.mem_of_getElem? (i := 4) rfl) (gd_mono k_s_X5_refuse (fun _ h => List.mem_cons_of_mem _ (List.mem_append_right _ (List.mem_append_right _ (List.mem_append_left _ h)))))) rfl rfl rfl (by decide +kernel) ⟨Nat.le_of_ble_eq_true rfl, Nat.le_of_ble_eq_true rfl⟩) ⟨fun a U g mk q => by obtain ⟨q0, q1, qP, qK, qD⟩ := q; exact ⟨q0, q1, qP, va_K.moved (u := U) (U := U.calling g mk a) (Vm.Alike.refl U.vm) qK, qD⟩, va_recv hK hPc (ci := 5) (q0 := 0) rfl rfl, fun U hU hW => ⟨rfl, by rw [hU], by rw [hU]; exact hPc, va_K.moved hW.alike hK, hDc.weaken (fun _ _ _ _ => trivial)⟩⟩ rfl rfl hl.1 rfl (lv_room (Nat.le_of_ble_eq_true rfl)) dX5_begin_6 ⟨Nat.le_of_ble_eq_true rfl, Nat.le_of_ble_eq_true rfl⟩) hS (fun q _ h => hFc q h) hFc (fun u t H1 locs ht hvm hw hB hz1 hk1 hS => ?_)
    obtain ⟨x_7, x_8, hP1, hD1⟩ := hB
    rw [ht] at hP1
    obtain ⟨hP, hD⟩ := va_join (wr := []) (w1 := [(h0, .inr (5, [.ref h1, .ref h2, .ref h3, .ref h4, .int a0, .int a1, .ref h5, .int a9, .int a10, .int a11, .int x_7, .int x_8])), (h2, .inl (cI, 1601, .inl g1)), (h3, .inl (cI, 1601, .inl g2))]) hP hD [0, 1, 2] [] rfl rfl (by decide) (by decide) hk1 hFc hP1 hD1
    generalize H1 = H at hP hS ⊢
    have hP : va_P (dC, dI) vwCl [(h0, .inr (5, [.ref h1, .ref h2, .ref h3, .ref h4, .int a0, .int a1, .ref h5, .int a9, .int a10, .int a11, .int x_7, .int x_8])), (h2, .inl (cI, 1601, .inl g1)), (h3, .inl (cI, 1601, .inl g2))] H := hP
    have hD : va_D A [(h0, .inr (5, [.ref h1, .ref h2, .ref h3, .ref h4, .int a0, .int a1, .ref h5, .int a9, .int a10, .int a11, .int x_7, .int x_8])), (h2, .inl (cI, 1601, .inl g1)), (h3, .inl (cI, 1601, .inl g2))] := hD
    refine lv_aload_n hx hb dX5_begin_9 rfl (lv_at hl 0 rfl) ?_
    have hPc := hP.sub (ws' := [(h0, .inr (5, [.ref h1, .ref h2, .ref h3, .ref h4, .int a0, .int a1, .ref h5, .int a9, .int a10, .int a11, .int x_7, .int x_8]))]) [0] rfl
    have hDc := hD.sub (ws' := [(h0, .inr (5, [.ref h1, .ref h2, .ref h3, .ref h4, .int a0, .int a1, .ref h5, .int a9, .int a10, .int a11, .int x_7, .int x_8]))]) [0] (by decide) rfl
    have hFc := va_free (wc := [(h0, .inr (5, [.ref h1, .ref h2, .ref h3, .ref h4, .int a0, .int a1, .ref h5, .int a9, .int a10, .int a11, .int x_7, .int x_8]))]) hD hS hA [0] rfl
    refine va_callv (va_runV (As := []) (rest := []) ⟨hx, hb, hml, hown, hts⟩ (c_s_X5_step l dC dI cB cI cJ cZ cP h0 h1 h2 h3 h4 a0 (rg_mono ha0 (by decide) (by decide)) a1 (rg_mono ha1 (by decide) (by decide)) h5 a9 a10 a11 x_7 x_8 H.size) (cwV 0 hts (gd_V (List.mem_of_getElem? (i := 1) rfl) (List.mem_of_getElem? (i := 2) rfl) (List.mem_of_getElem? (i := 3) rfl) (List.mem_of_getElem? (i := 4) rfl) (gd_mono k_s_X5_step (fun _ h => List.mem_cons_of_mem _ (List.mem_append_right _ (List.mem_append_left _ h))))) rfl rfl rfl (by decide +kernel) ⟨Nat.le_of_ble_eq_true rfl, Nat.le_of_ble_eq_true rfl⟩) ⟨fun a U g mk q => by obtain ⟨q0, q1, qP, qK, qD⟩ := q; exact ⟨q0, q1, qP, va_K.moved (u := U) (U := U.calling g mk a) (Vm.Alike.refl U.vm) qK, qD⟩, va_recv hK hPc (ci := 5) (q0 := 0) rfl rfl, fun U hU hW => ⟨rfl, by rw [hU], by rw [hU]; exact hPc, va_K.moved hW.alike hK, hDc.weaken (fun _ _ _ _ => trivial)⟩⟩ rfl rfl hl.1 rfl (lv_room (Nat.le_of_ble_eq_true rfl)) dX5_begin_10 ⟨Nat.le_of_ble_eq_true rfl, Nat.le_of_ble_eq_true rfl⟩) hS (fun q _ h => hFc q h) hFc (fun u t H1 locs ht hvm hw hB hz1 hk1 hS => ?_)
    obtain ⟨x_10, hx_10, hP1, hD1⟩ := hB
    rw [ht] at hP1
    obtain ⟨hP, hD⟩ := va_join (wr := [(h2, .inl (cI, 1601, .inl g1)), (h3, .inl (cI, 1601, .inl g2))]) (w1 := [(h0, .inr (5, [.ref h1, .ref h2, .ref h3, .ref h4, .int a0, .int x_10, .ref h5, .int a9, .int a10, .int a11, .int x_7, .int x_8]))]) hP hD [0] [1, 2] rfl rfl (by decide) (by decide) hk1 hFc hP1 hD1
    generalize H1 = H at hP hS ⊢
    have hP : va_P (dC, dI) vwCl [(h2, .inl (cI, 1601, .inl g1)), (h3, .inl (cI, 1601, .inl g2)), (h0, .inr (5, [.ref h1, .ref h2, .ref h3, .ref h4, .int a0, .int x_10, .ref h5, .int a9, .int a10, .int a11, .int x_7, .int x_8]))] H := hP
    have hD : va_D A [(h2, .inl (cI, 1601, .inl g1)), (h3, .inl (cI, 1601, .inl g2)), (h0, .inr (5, [.ref h1, .ref h2, .ref h3, .ref h4, .int a0, .int x_10, .ref h5, .int a9, .int a10, .int a11, .int x_7, .int x_8]))] := hD
    have hP9 := hP.sub (ws' := [(h0, .inr (5, [.ref h1, .ref h2, .ref h3, .ref h4, .int a0, .int x_10, .ref h5, .int a9, .int a10, .int a11, .int x_7, .int x_8])), (h2, .inl (cI, 1601, .inl g1)), (h3, .inl (cI, 1601, .inl g2))]) [2, 0, 1] rfl
    have hD9 := hD.sub (ws' := [(h0, .inr (5, [.ref h1, .ref h2, .ref h3, .ref h4, .int a0, .int x_10, .ref h5, .int a9, .int a10, .int a11, .int x_7, .int x_8])), (h2, .inl (cI, 1601, .inl g1)), (h3, .inl (cI, 1601, .inl g2))]) [2, 0, 1] (by decide) rfl
    exact W.vret hx hb hr (fun t ht hW => ⟨⟨(), rfl, trivial, ⟨x_10, x_7, x_8, (rg_mono hx_10 (by decide) (by decide)), by rw [ht]; exact hP9, hD9⟩⟩, hS.F ht⟩) hS.2.2 dX5_begin_13
