theorem fa_lt (a b : Int32) : a < b ↔ a.toInt < b.toInt := Int32.lt_iff_toInt_lt
theorem fa_le (a b : Int32) : a ≤ b ↔ a.toInt ≤ b.toInt := Int32.le_iff_toInt_le
theorem fa_eq (a b : Int32) : a = b ↔ a.toInt = b.toInt := Int32.toInt_inj.symm
abbrev ty5 (cB cI cJ cZ cP : ClassId) : List (ClassId × FieldType) := [(cB, .byte), (cI, .int), (cJ, .long), (cZ, .boolean), (cP, .object "MayRings$Past")]
theorem gd_nil {big : List Cond} : GoodIn big [] := fun _ h => absurd h List.not_mem_nil
theorem gd_c {big ws : List Cond} {w : Cond} (hm : w ∈ big) (hg : goodWord w = true) (h : GoodIn big ws) : GoodIn big (w :: ws) := fun x hx => (List.mem_cons.mp hx).elim (fun e => e ▸ ⟨hm, good_of_word hg⟩) (h x)
theorem gd_mono {big big2 ws : List Cond} (h : GoodIn big ws) (hm : ∀ w ∈ ws, w ∈ big2) : GoodIn big2 ws := fun w hw => ⟨hm w hw, (h w hw).2⟩
theorem gd_V {big ws : List Cond} {own C : String} {idx : Nat} {y : MethodName} (h1 : Cond.methodLink own idx y ∈ big) (h2 : Cond.instanceMethod y ∈ big) (h3 : Cond.selects C y y ∈ big) (h4 : Cond.initialized C ∈ big) (h : GoodIn big ws) : GoodIn big (wsV own idx C y ws) := goodIn_app (gd_c h1 rfl (gd_c h2 rfl (gd_c h3 rfl (gd_c h4 rfl gd_nil)))) h
theorem gd_S {big ws : List Cond} {own : String} {idx : Nat} {y : MethodName} (h1 : Cond.methodLink own idx y ∈ big) (h2 : Cond.static y ∈ big) (h4 : Cond.initialized y.cls ∈ big) (h : GoodIn big ws) : GoodIn big (va_wsS own idx y ws) := goodIn_app (gd_c h1 rfl (gd_c h2 rfl (gd_c h4 rfl gd_nil))) h
theorem AO_same {C : String} {u U : State} (h : u.vm = U.vm) (q : va_AO C u) : va_AO C U := va_AO.moved (by rw [h]; exact Vm.Alike.refl _) q
theorem AO_warm {C : String} {u U : State} (h : u.WarmedH U.vm) (q : va_AO C u) : va_AO C U := va_AO.moved h.alike q
theorem ca_eq {D : va_G} {cl : List vw_C} {tys : List (ClassId × FieldType)} {s : State} {cA cN : ClassId} {ty : FieldType} {t0 t1 : Nat} (hK : va_K D cl tys s) (h0 : tys[t0]? = some (cA, ty)) (h1 : tys[t1]? = some (cN, ty)) : cN = cA := by
  have a := (hK.2 t0 _ h0).2
  have b := (hK.2 t1 _ h1).2
  have fa : s.vm.findClass ("[" ++ ty.toString) = some cA := by
    cases ty with
    | object C => obtain ⟨_, _, _, _, _, h⟩ := a; exact h
    | _ => exact a
  have fb : s.vm.findClass ("[" ++ ty.toString) = some cN := by
    cases ty with
    | object C => obtain ⟨_, _, _, _, _, h⟩ := b; exact h
    | _ => exact b
  rw [fa] at fb
  exact (Option.some.inj fb).symm
theorem ar_ext {cA : ClassId} {n : Nat} {f g : Nat → Int32} (h : ∀ j, j < n → f j = g j) : vp_cell cA (n, .inl f) = vp_cell cA (n, .inl g) := by
  rw [vp_cell_i, vp_cell_i]
  unfold arrV
  congr 1
  congr 1
  funext j
  exact congrArg Value.int (h j.val j.isLt)
def WTXT : String := "house weight bears quarrel wish worth street law or and not light heavy since year "
def SO (ks vs : Nat) (fb : Nat → Int32) (A : Nat → Prop) (U : State) (H : Heap) : Prop := va_O "java/lang/String" ks A U H ∧ va_OF "java/lang/String" "coder" "B" (.int 0) ks A U H ∧ va_OF "java/lang/String" "value" "[B" (.ref vs) ks A U H ∧ va_T .byte vs 83 (fun j => .int (fb j)) A U H ∧ va_Z "java/lang/String" "COMPACT_STRINGS" "Z" (.int 1) A U H ∧ va_Zq "jdk/internal/util/Preconditions" "SIOOBE_FORMATTER" "Ljava/util/function/BiFunction;" A U H
theorem SO_moved {ks vs : Nat} {fb : Nat → Int32} {A : Nat → Prop} {u U : State} {H : Heap} (hvm : u.vm.Alike U.vm) (h : SO ks vs fb A u H) : SO ks vs fb A U H := ⟨va_O.moved hvm h.1, va_OF.moved hvm h.2.1, va_OF.moved hvm h.2.2.1, va_T.moved hvm h.2.2.2.1, va_Z.moved hvm h.2.2.2.2.1, va_Zq.moved hvm h.2.2.2.2.2⟩
theorem SO_kept {ks vs : Nat} {fb : Nat → Int32} {A : Nat → Prop} {U : State} {H H1 : Heap} (h : SO ks vs fb A U H) (hq : ∀ a : Nat, a < H.size → ¬ A a → H1[a]? = H[a]?) : SO ks vs fb A U H1 := ⟨h.1.kept hq, h.2.1.kept hq, h.2.2.1.kept hq, h.2.2.2.1.kept hq, h.2.2.2.2.1.kept hq, h.2.2.2.2.2.kept hq⟩
theorem SO_narrow {ks vs : Nat} {fb : Nat → Int32} {A B : Nat → Prop} {U : State} {H : Heap} (h : SO ks vs fb A U H) (hAB : ∀ q, B q → A q) : SO ks vs fb B U H := ⟨h.1.narrow hAB, h.2.1.narrow hAB, h.2.2.1.narrow hAB, h.2.2.2.1.narrow hAB, h.2.2.2.2.1.narrow hAB, h.2.2.2.2.2.elim (fun z => Or.inl (z.narrow hAB)) (fun ⟨t, z⟩ => Or.inr ⟨t, z.narrow hAB⟩)⟩
theorem SO_recv {ks vs : Nat} {fb : Nat → Int32} {A : Nat → Prop} {s : State} {H : Heap} {locs : List Loc} (h : SO ks vs fb A s s.heap) (hS : va_S A s.heap H locs) : ∃ cell : Cell, H[ks]? = some cell ∧ cell.vm.isStatics = false ∧ s.vm.findClass "java/lang/String" = some cell.cls := by
  obtain ⟨cell, h1, h2, h3, -⟩ := h.1.kept hS.2.1
  exact ⟨cell, h1, h2, h3⟩
theorem z_shr (x : Int32) : (0 : Int32) >>> x = 0 := by
  apply Int32.toBitVec_inj.1
  simp
section WK
variable {p : Program} {l : Launch} {e : Env} {R : Room} {s : State} {m : MethodId} {args : Array Value} {below : List Frame} {meth : Method} {c : Code} {H : Heap} {locs : List Loc} {cells slots : Nat} {Q : State → Prop} {D : va_G} {cl : List vw_C} {tys : List (ClassId × FieldType)} {ws : va_W} {A : Nat → Prop} {H0 : Heap} {cc : ByteArray} {pc : Nat} {ls : Array Slot} {rest : List Value}
theorem tp_v {x : Value} (v : Value) (h : x = v) (k : W p l e R s m args below meth c H locs cells slots Q (F0 m pc ls (v :: rest))) : W p l e R s m args below meth c H locs cells slots Q (F0 m pc ls (x :: rest)) := h ▸ k
theorem W_gen {g : JFrame} (hP : va_P D cl ws s.heap) (k : ∀ (H : Heap) (locs : List Loc), va_P D cl ws H → va_S A s.heap H locs → W p l e R s m args below meth c H locs cells slots Q g) : W p l e R s m args below meth c s.heap [] cells slots Q g := k s.heap [] hP va_S.rf
theorem W_loop {σ : Type} (N : Nat) (Inv : Nat → σ → Heap → List Loc → Array Slot → Prop) (pc : Nat) (st : List Value)
    (hs : ∀ i, i < N → ∀ (u : σ) (H : Heap) (locs : List Loc) (ls : Array Slot), Inv i u H locs ls → (∀ (u : σ) (H : Heap) (locs : List Loc) (ls : Array Slot), Inv (i + 1) u H locs ls → W p l e R s m args below meth c H locs cells slots Q (F0 m pc ls st)) → W p l e R s m args below meth c H locs cells slots Q (F0 m pc ls st))
    (hx : ∀ (u : σ) (H : Heap) (locs : List Loc) (ls : Array Slot), Inv N u H locs ls → W p l e R s m args below meth c H locs cells slots Q (F0 m pc ls st)) :
    ∀ i, i ≤ N → ∀ (u : σ) (H : Heap) (locs : List Loc) (ls : Array Slot), Inv i u H locs ls → W p l e R s m args below meth c H locs cells slots Q (F0 m pc ls st) := by
  intro i hi
  obtain ⟨k, hk⟩ : ∃ k, i + k = N := ⟨N - i, by omega⟩
  induction k generalizing i with
  | zero => intro u H locs ls h; have : i = N := by omega
            subst this; exact hx u H locs ls h
  | succ k ih => intro u H locs ls h; exact hs i (by omega) u H locs ls h (ih (i + 1) (by omega) (by omega))
theorem nw_arr (hexec : p.tables.exec = Jvm.exec) (hb : c.code = cc) {atype : ArrayType} (harr : (Cond.arrayClass (newarray.typeOf atype)).before args s = true) {ty : FieldType} (hty : newarray.typeOf atype = ty) (hK : va_K D cl tys s) (hP : va_P D cl ws H) (hD : va_D A ws) (hS : va_S A H0 H locs) (hA : ∀ q, H0.size ≤ q → A q) (t0 : Nat) {cA : ClassId} (ht : tys[t0]? = some (cA, ty))
    {n : Int32} {N' : Nat} {a0 : vp_A} (ha : ∀ cA : ClassId, vp_cell cA a0 = arrV cA N' (fun _ => defaultValue ty)) (hn : ¬ n < 0) (hN : n.toNatClampNeg = N') (hbytes : N' * componentBytes ty ≤ 536870912) (hcells : cells + 1 ≤ R.cells) (hslots : slots + N' ≤ R.slots) (hdg : decode cc pc = .ok (.newarray atype, 2))
    (kk : ∀ (q : Nat) (H1 : Heap), va_P D cl (ws ++ [(q, .inl (cA, a0))]) H1 → va_D A (ws ++ [(q, .inl (cA, a0))]) → va_S A H0 H1 locs →
      W p l e R s m args below meth c H1 locs (cells + 1) (slots + N') Q (F0 m (pc + 2) ls (.ref q :: rest))) : W p l e R s m args below meth c H locs cells slots Q (F0 m pc ls (.int n :: rest)) := by
  refine va_newa hexec hb harr hty hK hP hD hS hA ha hn hN hbytes hcells hslots hdg (fun q cN H1 hK1 hP1 hD1 hS1 => ?_)
  have hl : t0 < tys.length := (List.getElem?_eq_some_iff.mp ht).1
  have e : cN = cA := ca_eq (t0 := t0) (t1 := tys.length) hK1 (by rw [List.getElem?_append_left hl]; exact ht) (by simp)
  subst e
  exact kk q H1 hP1 hD1 hS1
theorem nw_arq (hexec : p.tables.exec = Jvm.exec) (hb : c.code = cc) {own C : String} {index : Nat} (hown : s.vm.findClass own = some m.cls) (hclink : (Cond.classLink own index C).before args s = true) (hover : va_AO C s) (hK : va_K D cl tys s) (hP : va_P D cl ws H) (hD : va_D A ws) (hS : va_S A H0 H locs) (hA : ∀ q, H0.size ≤ q → A q) (t0 : Nat) {cA : ClassId} (ht : tys[t0]? = some (cA, .object C))
    {n : Int32} {N' : Nat} (hn : ¬ n < 0) (hN : n.toNatClampNeg = N') (hbytes : N' * 4 ≤ 536870912) (hcells : cells + 1 ≤ R.cells) (hslots : slots + N' ≤ R.slots) (hdg : decode cc pc = .ok (.anewarray index, 3))
    (kk : ∀ (q : Nat) (H1 : Heap), va_P D cl (ws ++ [(q, .inl (cA, N', .inr (.inr (.inr (.inr (fun _ => none))))))]) H1 → va_D A (ws ++ [(q, .inl (cA, N', .inr (.inr (.inr (.inr (fun _ => none))))))]) → va_S A H0 H1 locs →
      W p l e R s m args below meth c H1 locs (cells + 1) (slots + N') Q (F0 m (pc + 3) ls (.ref q :: rest))) : W p l e R s m args below meth c H locs cells slots Q (F0 m pc ls (.int n :: rest)) := by
  refine va_newq hexec hb hown hclink hover hK hP hD hS hA hn hN hbytes hcells hslots hdg (fun q cN H1 hK1 hP1 hD1 hS1 => ?_)
  have hl : t0 < tys.length := (List.getElem?_eq_some_iff.mp ht).1
  have e : cN = cA := ca_eq (t0 := t0) (t1 := tys.length) hK1 (by rw [List.getElem?_append_left hl]; exact ht) (by simp)
  subst e
  exact kk q H1 hP1 hD1 hS1
end WK
set_option maxRecDepth 20000 in
theorem kfX0 : GoodIn lw_tbl wsX00 := goodIn_r _ [510, 512, 514, 516, 518, 520, 522, 524, 526, 528] (by decide +kernel) (by decide +kernel)
set_option maxRecDepth 20000 in
theorem kfX1 : GoodIn lw_tbl wsX10 := goodIn_r _ [191, 193, 195, 197, 199, 201] (by decide +kernel) (by decide +kernel)
set_option maxRecDepth 20000 in
theorem kfX2 : GoodIn lw_tbl wsX20 := goodIn_r _ [414, 416, 418, 420, 422, 424, 426, 428] (by decide +kernel) (by decide +kernel)
set_option maxRecDepth 20000 in
theorem kfX3 : GoodIn lw_tbl wsX30 := goodIn_r _ [368, 370] (by decide +kernel) (by decide +kernel)
set_option maxRecDepth 20000 in
theorem kfX4 : GoodIn lw_tbl wsX40 := goodIn_r _ [384, 386, 388, 390, 392, 394] (by decide +kernel) (by decide +kernel)
set_option maxRecDepth 20000 in
theorem kfX5 : GoodIn lw_tbl wsX50 := goodIn_r _ [321, 323, 325, 327, 329, 331, 333, 335, 337, 339, 341, 343] (by decide +kernel) (by decide +kernel)
set_option maxRecDepth 20000 in
theorem kfX6 : GoodIn lw_tbl wsX60 := goodIn_r _ [234, 236, 238, 240, 242, 244, 246, 248, 250, 252] (by decide +kernel) (by decide +kernel)
set_option maxRecDepth 20000 in
theorem kfX7 : GoodIn lw_tbl wsX70 := goodIn_r _ [465, 467, 469, 471, 473, 475, 477, 479, 481, 483, 485, 487, 489, 491] (by decide +kernel) (by decide +kernel)
set_option maxRecDepth 20000 in
theorem kfX8 : GoodIn lw_tbl wsX80 := goodIn_r _ [543, 545, 547, 549, 551, 553, 555, 557, 559, 561, 563, 565] (by decide +kernel) (by decide +kernel)
set_option maxRecDepth 20000 in
theorem kfX9 : GoodIn lw_tbl wsX90 := goodIn_r _ [1307, 1309, 1311, 1313, 1315, 1317, 1319, 1321, 1323, 1325, 1327, 1329, 1331, 1333, 1335, 1337, 1339, 1341, 1343, 1345, 1347, 1349, 1351, 1353, 1355, 1357, 1359, 1361, 1363, 1365, 1367, 1369, 1371, 1373, 1375, 1377, 1379, 1381, 1383, 1385, 1387, 1389, 1391, 1393, 1395, 1397, 1399, 1401, 1403, 1405, 1407, 1409, 1411, 1413, 1415, 1417, 1419, 1421, 1423, 1425, 1427, 1429, 1431, 1433, 1435, 1437, 1439, 1441, 1443, 1445, 1447, 1449] (by decide +kernel) (by decide +kernel)
