/-! THE CLAIM OUT OF ONE WALK OF THE LAW'S BODY. Your part is whole_start (and what it stands on); all else here is the same for every law, but numbers. -/
def R_law : String := "MayRingsLaw"
def lw_P (b : Addr) (xs : List Int32) (args : Array Value) (s : State) : Prop := args = #[.ref b] ∧ s.IntsAt b xs ∧ xs.length ≤ 3072 ∧ (Jvm.Cond.and given_1 narrow_1).before args s = true
def lw_Q (_ : Array Value) (s : State) (o : Outcome) (t : State) : Prop := o = .returned (some (.int 1)) ∧ Framed s o t [] 600000 7302250
def lw_Z (below : List Frame) (a : Array Value) (s : State) : State → Prop := fun t => ∃ o, t.status = .running ∧ Ended t below o ∧ lw_Q a s o t
/-- the law's own end, with 1 on the stack, nothing written that was there before, its room as the claim has it -/
theorem lw_ret {p : Program} {l : Launch} {e : Env} {s : State} {m : MethodId} {below : List Frame} {meth : Method} {c : Code} {b : Nat} (hx : p.tables.exec = Jvm.exec) (hb : c.code = code) (hr : meth.sig.returnType = ret) (hlocks : meth.locks = false) {pc : Nat} {H : Heap} {ls : Array Slot} (hdg : decode code pc = .ok (.ireturn, 1)) : W p l e room_1 s m #[Value.ref b] below meth c H [] 600000 7302250 (lw_Z below #[Value.ref b] s) (F0 m pc ls [.int 1]) := by
  intro T hT X
  obtain ⟨fs, hret, hrun, hended, hW, hframe⟩ := X.leave (v := some (.int 1)) (hlocks := hlocks) (fun h => by rw [hr] at h; cases h)
  have hmeth' : T.vm.method? m = some meth := X.method'
  refine ⟨T.setFrames fs, ?_, .returned (some (.int 1)), hrun, hended, rfl, ⟨_, rfl⟩, hW, hframe⟩
  jvm_step X.here [X.here.top, hx, hb, hdg, hmeth', hr, ret, narrow_b1]
  (try refine ⟨rfl, ?_⟩); (try refine ⟨rfl, ?_⟩)
  first | (intro acts; rw [hret _ acts rfl rfl rfl]) | rw [hret _ _ rfl rfl rfl]
  exact Steps.refl _
/-- what holds at the law's entry: the machine, the code, the tables' words (any of lw_tbl by 'hts w (by decide +kernel)'), the script of L ints xs at the cell b, what the Statement gives of the start (any of its parts by flat_of_before) -/
def lw_At (p : Program) (s : State) (m : MethodId) (meth : Method) (c : Code) (b L : Nat) (xs : Nat → Int32) : Prop :=
  p.tables.exec = Jvm.exec ∧ c.code = code ∧ meth.sig.returnType = ret ∧ c.maxLocals = 4 ∧ s.vm.findClass R_law = some m.cls ∧ (∀ w ∈ lw_tbl, w.before #[Value.ref b] s = true) ∧ va_X b L xs s s.heap ∧ b < s.heap.size ∧ meth.locks = false ∧ (Jvm.Cond.and given_1 narrow_1).before #[Value.ref b] s = true
set_option maxHeartbeats 2000000 in
set_option maxRecDepth 20000 in
theorem lw_K {s : State} {b : Nat} (hts : ∀ w ∈ lw_tbl, w.before #[Value.ref b] s = true) : ∃ (dC : Nat → ClassId) (dI : Nat → Nat → Nat) (cB cI cJ cZ cP : ClassId), va_K (dC, dI) vwCl (ty5 cB cI cJ cZ cP) s := by
  obtain ⟨c0, i0, hn0⟩ := u_known (C := RX0) (T := TX0) (N := 10) (n := 10) hts (fun w h => (kfX0 w h).1) (hts (.instantiable RX0 10) (List.mem_of_getElem? (i := 495) (by decide +kernel)))
  obtain ⟨c1, i1, hn1⟩ := u_known (C := RX1) (T := TX1) (N := 6) (n := 6) hts (fun w h => (kfX1 w h).1) (hts (.instantiable RX1 6) (List.mem_of_getElem? (i := 170) (by decide +kernel)))
  obtain ⟨c2, i2, hn2⟩ := u_known (C := RX2) (T := TX2) (N := 8) (n := 8) hts (fun w h => (kfX2 w h).1) (hts (.instantiable RX2 8) (List.mem_of_getElem? (i := 399) (by decide +kernel)))
  obtain ⟨c3, i3, hn3⟩ := u_known (C := RX3) (T := TX3) (N := 2) (n := 2) hts (fun w h => (kfX3 w h).1) (hts (.instantiable RX3 2) (List.mem_of_getElem? (i := 355) (by decide +kernel)))
  obtain ⟨c4, i4, hn4⟩ := u_known (C := RX4) (T := TX4) (N := 6) (n := 6) hts (fun w h => (kfX4 w h).1) (hts (.instantiable RX4 6) (List.mem_of_getElem? (i := 349) (by decide +kernel)))
  obtain ⟨c5, i5, hn5⟩ := u_known (C := RX5) (T := TX5) (N := 12) (n := 12) hts (fun w h => (kfX5 w h).1) (hts (.instantiable RX5 12) (List.mem_of_getElem? (i := 158) (by decide +kernel)))
  obtain ⟨c6, i6, hn6⟩ := u_known (C := RX6) (T := TX6) (N := 10) (n := 10) hts (fun w h => (kfX6 w h).1) (hts (.instantiable RX6 10) (List.mem_of_getElem? (i := 164) (by decide +kernel)))
  obtain ⟨c7, i7, hn7⟩ := u_known (C := RX7) (T := TX7) (N := 14) (n := 14) hts (fun w h => (kfX7 w h).1) (hts (.instantiable RX7 14) (List.mem_of_getElem? (i := 435) (by decide +kernel)))
  obtain ⟨c8, i8, hn8⟩ := u_known (C := RX8) (T := TX8) (N := 12) (n := 12) hts (fun w h => (kfX8 w h).1) (hts (.instantiable RX8 12) (List.mem_of_getElem? (i := 150) (by decide +kernel)))
  obtain ⟨c9, i9, hn9⟩ := u_known (C := RX9) (T := TX9) (N := 72) (n := 72) hts (fun w h => (kfX9 w h).1) (hts (.instantiable RX9 72) (List.mem_of_getElem? (i := 1218) (by decide +kernel)))
  obtain ⟨cB, kB, mB, B1, B2, B3⟩ := Cond.arrayClass_spec (hts (.arrayClass .byte) (List.mem_of_getElem? (i := 204) (by decide +kernel)))
  obtain ⟨cI, kI, mI, I1, I2, I3⟩ := Cond.arrayClass_spec (hts (.arrayClass .int) (List.mem_of_getElem? (i := 206) (by decide +kernel)))
  obtain ⟨cJ, kJ, mJ, J1, J2, J3⟩ := Cond.arrayClass_spec (hts (.arrayClass .long) (List.mem_of_getElem? (i := 205) (by decide +kernel)))
  obtain ⟨cZ, kZ, mZ, Z1, Z2, Z3⟩ := Cond.arrayClass_spec (hts (.arrayClass .boolean) (List.mem_of_getElem? (i := 431) (by decide +kernel)))
  obtain ⟨mP, cP, kP, P1, P2, P3, P4, P5⟩ := Cond.arrayOver_spec (hts (.arrayOver (.object "MayRings$Past")) (List.mem_of_getElem? (i := 397) (by decide +kernel)))
  refine ⟨fun k => match k with | 0 => c0 | 1 => c1 | 2 => c2 | 3 => c3 | 4 => c4 | 5 => c5 | 6 => c6 | 7 => c7 | 8 => c8 | _ => c9, fun k => match k with | 0 => i0 | 1 => i1 | 2 => i2 | 3 => i3 | 4 => i4 | 5 => i5 | 6 => i6 | 7 => i7 | 8 => i8 | _ => i9, cB, cI, cJ, cZ, cP, ?_, ?_⟩
  · intro k q hq
    match k, hq with
    | 0, hq => cases hq; exact hn0
    | 1, hq => cases hq; exact hn1
    | 2, hq => cases hq; exact hn2
    | 3, hq => cases hq; exact hn3
    | 4, hq => cases hq; exact hn4
    | 5, hq => cases hq; exact hn5
    | 6, hq => cases hq; exact hn6
    | 7, hq => cases hq; exact hn7
    | 8, hq => cases hq; exact hn8
    | 9, hq => cases hq; exact hn9
    | k + 10, hq => simp [vwCl] at hq
  · intro k q hq
    match k, hq with
    | 0, hq => cases hq; exact ⟨fun n z => ⟨fun k h => (by cases h), kB, B2, mB, B3⟩, B1⟩
    | 1, hq => cases hq; exact ⟨fun n z => ⟨fun k h => (by cases h), kI, I2, mI, I3⟩, I1⟩
    | 2, hq => cases hq; exact ⟨fun n z => ⟨fun k h => (by cases h), kJ, J2, mJ, J3⟩, J1⟩
    | 3, hq => cases hq; exact ⟨fun n z => ⟨fun k h => (by cases h), kZ, Z2, mZ, Z3⟩, Z1⟩
    | 4, hq => cases hq; exact ⟨fun n z => ⟨fun k h => (by cases h), kP, P3, mP, P4⟩, kP, mP, P3, P4, P1, P5⟩
    | k + 5, hq => simp [ty5] at hq
def wb_y : List Int32 := [104, 111, 117, 115, 101, 32, 119, 101, 105, 103, 104, 116, 32, 98, 101, 97, 114, 115, 32, 113, 117, 97, 114, 114, 101, 108, 32, 119, 105, 115, 104, 32, 119, 111, 114, 116, 104, 32, 115, 116, 114, 101, 101, 116, 32, 108, 97, 119, 32, 111, 114, 32, 97, 110, 100, 32, 110, 111, 116, 32, 108, 105, 103, 104, 116, 32, 104, 101, 97, 118, 121, 32, 115, 105, 110, 99, 101, 32, 121, 101, 97, 114, 32]
set_option maxRecDepth 20000 in
theorem wb_in : ∀ j, j < 83 → Cond.eq (.elem (.field (.string "MayRings$Reader" 55) "java/lang/String" "value" "[B") (.int (Int32.ofNat j))) (.int (wb_y.getD j 0)) ∈ flatC (Jvm.Cond.and given_1 narrow_1) := by decide +kernel
set_option maxHeartbeats 2000000 in
set_option maxRecDepth 20000 in
theorem lw_SO {s : State} {b : Nat} (hts : ∀ w ∈ lw_tbl, w.before #[Value.ref b] s = true) (hgv : (Jvm.Cond.and given_1 narrow_1).before #[Value.ref b] s = true) : ∃ (ks vs : Nat) (fb : Nat → Int32), SO ks vs fb (fun q : Nat => s.heap.size ≤ q) s s.heap ∧ vk_R "MayRings$Reader" 55 WTXT ks s := by
  have hs := flat_of_before _ hgv
  have hA : ∀ a : Nat, a < s.heap.size → ¬ (fun q : Nat => s.heap.size ≤ q) a := fun a h => Nat.not_le.mpr h
  obtain ⟨adK, adV, h1, h2⟩ := vk_Sof (args := #[Value.ref b]) (s := s) (N := 1) (tm := fun _ => Term.string "MayRings$Reader" 55) (len := [83]) (byt := [wb_y]) (A := fun q : Nat => s.heap.size ≤ q) (fun i hi => by obtain rfl : i = 0 := (by omega); decide) (fun i hi => hs _ (by decide +kernel)) (fun i hi => hs _ (by decide +kernel)) (fun i hi => hs _ (by decide +kernel)) (fun i hi => by obtain rfl : i = 0 := (by omega); exact hs (Cond.eq (.length (.field (.string "MayRings$Reader" 55) "java/lang/String" "value" "[B")) (.int 83)) (by decide +kernel)) (fun i hi j hj => by obtain rfl : i = 0 := (by omega); exact hs _ (wb_in j hj)) (fun i j hi hj hn => absurd (show i = j by omega) hn) hA
  obtain ⟨a1, a2, a3, a4⟩ := h1.1 0 (by omega)
  refine ⟨adK 0, adV 0, fun j => wb_y.getD j 0, ⟨a1, a2, a3, a4, va_Zof (hts (.laysStatic "java/lang/String" "COMPACT_STRINGS" "Z") (List.mem_of_getElem? (i := 265) (by decide +kernel))) (hts (.initialized "java/lang/String") (List.mem_of_getElem? (i := 135) (by decide +kernel))) (va_eqi (hs _ (by decide +kernel))) hA, va_Zqof (hts (.laysStatic "jdk/internal/util/Preconditions" "SIOOBE_FORMATTER" "Ljava/util/function/BiFunction;") (List.mem_of_getElem? (i := 281) (by decide +kernel))) (hts (.initialized "jdk/internal/util/Preconditions") (List.mem_of_getElem? (i := 137) (by decide +kernel))) (hs _ (by decide +kernel)) hA⟩, ?_⟩
  exact vk_R.of (A := #[Value.ref b]) (hts (.stringRef "MayRings$Reader" 55 WTXT) (List.mem_of_getElem? (i := 255) (by decide +kernel))) (h2 0 (by omega))
def wc_y : List Int32 := [59, 40, 41, 60, 62, 61, 43, 45, 42, 47]
set_option maxRecDepth 20000 in
theorem wc_in : ∀ j, j < 10 → Cond.eq (.elem (.field (.string "MayRings$Reader" 108) "java/lang/String" "value" "[B") (.int (Int32.ofNat j))) (.int (wc_y.getD j 0)) ∈ flatC (Jvm.Cond.and given_1 narrow_1) := by decide +kernel
set_option maxHeartbeats 2000000 in
set_option maxRecDepth 20000 in
theorem lw_SO2 {s : State} {b : Nat} (hts : ∀ w ∈ lw_tbl, w.before #[Value.ref b] s = true) (hgv : (Jvm.Cond.and given_1 narrow_1).before #[Value.ref b] s = true) : ∃ (ks vs : Nat) (fb : Nat → Int32), SO2 ks vs fb (fun q : Nat => s.heap.size ≤ q) s s.heap ∧ vk_R "MayRings$Reader" 108 STXT ks s := by
  have hs := flat_of_before _ hgv
  have hA : ∀ a : Nat, a < s.heap.size → ¬ (fun q : Nat => s.heap.size ≤ q) a := fun a h => Nat.not_le.mpr h
  obtain ⟨adK, adV, h1, h2⟩ := vk_Sof (args := #[Value.ref b]) (s := s) (N := 1) (tm := fun _ => Term.string "MayRings$Reader" 108) (len := [10]) (byt := [wc_y]) (A := fun q : Nat => s.heap.size ≤ q) (fun i hi => by obtain rfl : i = 0 := (by omega); decide) (fun i hi => hs _ (by decide +kernel)) (fun i hi => hs _ (by decide +kernel)) (fun i hi => hs _ (by decide +kernel)) (fun i hi => by obtain rfl : i = 0 := (by omega); exact hs (Cond.eq (.length (.field (.string "MayRings$Reader" 108) "java/lang/String" "value" "[B")) (.int 10)) (by decide +kernel)) (fun i hi j hj => by obtain rfl : i = 0 := (by omega); exact hs _ (wc_in j hj)) (fun i j hi hj hn => absurd (show i = j by omega) hn) hA
  obtain ⟨a1, a2, a3, a4⟩ := h1.1 0 (by omega)
  refine ⟨adK 0, adV 0, fun j => wc_y.getD j 0, ⟨a1, a2, a3, a4, va_Zof (hts (.laysStatic "java/lang/String" "COMPACT_STRINGS" "Z") (List.mem_of_getElem? (i := 265) (by decide +kernel))) (hts (.initialized "java/lang/String") (List.mem_of_getElem? (i := 135) (by decide +kernel))) (va_eqi (hs _ (by decide +kernel))) hA⟩, ?_⟩
  exact vk_R.of (A := #[Value.ref b]) (hts (.stringRef "MayRings$Reader" 108 STXT) (List.mem_of_getElem? (i := 621) (by decide +kernel))) (h2 0 (by omega))
