/-! What holds at the law's start -/
theorem ar_int {args : Array Value} {s : State} (h : (Cond.arrayClass .int).before args s = true) : ∃ cA : ClassId, ArrOfT s cA .int ∧ va_RA s cA .int := by
  obtain ⟨cA, kA, comp, h1, h2, h3⟩ := Cond.arrayClass_spec h
  exact ⟨cA, fun n z => ⟨(fun k h => by cases h), kA, h2, comp, h3⟩, h1⟩
theorem ar_char {args : Array Value} {s : State} (h : (Cond.arrayClass .char).before args s = true) : ∃ cA : ClassId, ArrOfT s cA .char ∧ va_RA s cA .char := by
  obtain ⟨cA, kA, comp, h1, h2, h3⟩ := Cond.arrayClass_spec h
  exact ⟨cA, fun n z => ⟨(fun k h => by cases h), kA, h2, comp, h3⟩, h1⟩
theorem ar_obj {C : String} {s : State} (h : va_AO C s) : ∃ cA : ClassId, ArrOfT s cA (.object C) ∧ va_RA s cA (.object C) := by
  obtain ⟨comp, c, k, h1, h2, h3, h4, h5⟩ := Cond.arrayOver_spec h
  exact ⟨c, fun n z => ⟨(fun k h => by cases h), k, h3, comp, h4⟩, k, comp, h3, h4, h1, h5⟩
theorem tys_all {args : Array Value} {s : State} (hts : ∀ w ∈ WG, w.before args s = true) (h3 : va_AO "MeterRooms$Room" s) (h4 : va_AO "MeterRooms$State" s) : ∃ kk : Nat → ClassId, ∀ (k : Nat) (q : ClassId × FieldType), (TYS kk)[k]? = some q → ArrOfT s q.1 q.2 ∧ va_RA s q.1 q.2 := by
  obtain ⟨c0, e0⟩ := ar_int (hts _ ac_int)
  obtain ⟨c1, e1⟩ := ar_char (hts _ ac_char)
  obtain ⟨c3, e3⟩ := ar_obj h3
  obtain ⟨c4, e4⟩ := ar_obj h4
  refine ⟨fun k => match k with | 0 => c0 | 1 => c1 | 3 => c3 | _ => c4, fun k q hq => ?_⟩
  match k, hq with
  | 0, hq => cases hq; exact e0
  | 1, hq => cases hq; exact e1
  | 2, hq => cases hq; exact e0
  | 3, hq => cases hq; exact e3
  | 4, hq => cases hq; exact e4
  | k + 5, hq => exact absurd hq (by simp [TYS])
theorem cls_all {args : Array Value} {s : State} (hts : ∀ w ∈ WG, w.before args s = true) : ∃ G : va_G, ∀ (c : Nat) (q : vw_C), vwCl[c]? = some q → u_Kn s q.1 q.2.1 q.2.2 (G.1 c) (G.2 c) := by
  obtain ⟨c0, i0, e0⟩ := u_known (C := RX0) (T := TX0) (N := 2) (n := 2) hts in_X0 (hts _ nl_X7_29.2.1)
  obtain ⟨c1, i1, e1⟩ := u_known (C := RX1) (T := TX1) (N := 7) (n := 7) hts in_X1 (hts _ nl_X7_7.2.1)
  obtain ⟨c2, i2, e2⟩ := u_known (C := RX2) (T := TX2) (N := 10) (n := 10) hts in_X2 (hts _ nl_X5_18.2.1)
  obtain ⟨c3, i3, e3⟩ := u_known (C := RX3) (T := TX3) (N := 6) (n := 6) hts in_X3 (hts _ nl_X5_9.2.1)
  obtain ⟨c4, i4, e4⟩ := u_known (C := RX4) (T := TX4) (N := 2) (n := 2) hts in_X4 (hts _ nl_X7_36.2.1)
  obtain ⟨c5, i5, e5⟩ := u_known (C := RX5) (T := TX5) (N := 11) (n := 11) hts in_X5 (hts _ nl_X7_16.2.1)
  obtain ⟨c6, i6, e6⟩ := u_known (C := RX6) (T := TX6) (N := 2) (n := 2) hts in_X6 (hts _ nl_X1_9.2.1)
  obtain ⟨c7, i7, e7⟩ := u_known (C := RX7) (T := TX7) (N := 7) (n := 7) hts in_X7 (hts _ nl_L_8.2.1)
  refine ⟨(fun k => match k with | 0 => c0 | 1 => c1 | 2 => c2 | 3 => c3 | 4 => c4 | 5 => c5 | 6 => c6 | _ => c7, fun k => match k with | 0 => i0 | 1 => i1 | 2 => i2 | 3 => i3 | 4 => i4 | 5 => i5 | 6 => i6 | _ => i7), fun k q hq => ?_⟩
  match k, hq with
  | 0, hq => cases hq; exact e0
  | 1, hq => cases hq; exact e1
  | 2, hq => cases hq; exact e2
  | 3, hq => cases hq; exact e3
  | 4, hq => cases hq; exact e4
  | 5, hq => cases hq; exact e5
  | 6, hq => cases hq; exact e6
  | 7, hq => cases hq; exact e7
  | k + 8, hq => exact absurd hq (by simp [vwCl])
theorem str_of {args : Array Value} {s : State} {own tx : String} {k : Nat} (h1 : (Cond.stringRef own k tx).before args s = true) (h2 : (Cond.exactly (.string own k) "java/lang/String").before args s = true) : ∃ a : Nat, vk_R own k tx a s := by
  obtain ⟨a, c, cA, kA, q1, q2, q3, q4, q5, q6, -⟩ := Cond.exactly_spec (args := args) (first := s) (o := none) (s := s) (idx := []) (t := .string own k) (cls := "java/lang/String") h2
  exact ⟨a, vk_R.of h1 q1⟩
set_option maxRecDepth 100000 in
theorem en_str {args : Array Value} {s : State} (hts : ∀ w ∈ lw_tbl, w.before args s = true) (hs : ∀ w ∈ flatC (Jvm.Cond.and given_1 narrow_1), w.before args s = true) : SR s := by
  unfold SR STL
  exact (List.forall_mem_cons.mpr ⟨str_of (hts _ (List.mem_of_getElem? (i := 329) (by decide +kernel))) (hs _ (List.mem_of_getElem? (i := 54) (by decide +kernel))), (List.forall_mem_cons.mpr ⟨str_of (hts _ (List.mem_of_getElem? (i := 369) (by decide +kernel))) (hs _ (List.mem_of_getElem? (i := 75) (by decide +kernel))), (List.forall_mem_cons.mpr ⟨str_of (hts _ (List.mem_of_getElem? (i := 423) (by decide +kernel))) (hs _ (List.mem_of_getElem? (i := 96) (by decide +kernel))), (List.forall_mem_cons.mpr ⟨str_of (hts _ (List.mem_of_getElem? (i := 591) (by decide +kernel))) (hs _ (List.mem_of_getElem? (i := 125) (by decide +kernel))), (List.forall_mem_cons.mpr ⟨str_of (hts _ (List.mem_of_getElem? (i := 618) (by decide +kernel))) (hs _ (List.mem_of_getElem? (i := 151) (by decide +kernel))), (List.forall_mem_cons.mpr ⟨str_of (hts _ (List.mem_of_getElem? (i := 625) (by decide +kernel))) (hs _ (List.mem_of_getElem? (i := 180) (by decide +kernel))), (List.forall_mem_cons.mpr ⟨str_of (hts _ (List.mem_of_getElem? (i := 647) (by decide +kernel))) (hs _ (List.mem_of_getElem? (i := 207) (by decide +kernel))), (List.forall_mem_cons.mpr ⟨str_of (hts _ (List.mem_of_getElem? (i := 660) (by decide +kernel))) (hs _ (List.mem_of_getElem? (i := 235) (by decide +kernel))), (List.forall_mem_cons.mpr ⟨str_of (hts _ (List.mem_of_getElem? (i := 662) (by decide +kernel))) (hs _ (List.mem_of_getElem? (i := 285) (by decide +kernel))), (List.forall_mem_cons.mpr ⟨str_of (hts _ (List.mem_of_getElem? (i := 682) (by decide +kernel))) (hs _ (List.mem_of_getElem? (i := 314) (by decide +kernel))), (List.forall_mem_cons.mpr ⟨str_of (hts _ (List.mem_of_getElem? (i := 696) (by decide +kernel))) (hs _ (List.mem_of_getElem? (i := 347) (by decide +kernel))), (List.forall_mem_cons.mpr ⟨str_of (hts _ (List.mem_of_getElem? (i := 705) (by decide +kernel))) (hs _ (List.mem_of_getElem? (i := 377) (by decide +kernel))), (List.forall_mem_cons.mpr ⟨str_of (hts _ (List.mem_of_getElem? (i := 717) (by decide +kernel))) (hs _ (List.mem_of_getElem? (i := 421) (by decide +kernel))), (List.forall_mem_cons.mpr ⟨str_of (hts _ (List.mem_of_getElem? (i := 738) (by decide +kernel))) (hs _ (List.mem_of_getElem? (i := 459) (by decide +kernel))), (List.forall_mem_cons.mpr ⟨str_of (hts _ (List.mem_of_getElem? (i := 813) (by decide +kernel))) (hs _ (List.mem_of_getElem? (i := 608) (by decide +kernel))), (List.forall_mem_cons.mpr ⟨str_of (hts _ (List.mem_of_getElem? (i := 830) (by decide +kernel))) (hs _ (List.mem_of_getElem? (i := 680) (by decide +kernel))), (List.forall_mem_cons.mpr ⟨str_of (hts _ (List.mem_of_getElem? (i := 769) (by decide +kernel))) (hs _ (List.mem_of_getElem? (i := 516) (by decide +kernel))), (List.forall_mem_cons.mpr ⟨str_of (hts _ (List.mem_of_getElem? (i := 782) (by decide +kernel))) (hs _ (List.mem_of_getElem? (i := 560) (by decide +kernel))), (fun _ h => absurd h List.not_mem_nil)⟩)⟩)⟩)⟩)⟩)⟩)⟩)⟩)⟩)⟩)⟩)⟩)⟩)⟩)⟩)⟩)⟩)⟩)
set_option maxRecDepth 100000 in
theorem en_ls {args : Array Value} {s : State} (hts : ∀ w ∈ lw_tbl, w.before args s = true) (hs : ∀ w ∈ flatC (Jvm.Cond.and given_1 narrow_1), w.before args s = true) {A : Nat → Prop} (hA : ∀ a : Nat, a < s.heap.size → ¬ A a) : ∃ t : Nat, va_Z "MeterRooms" "LEAST_SETTING" "[I" (.ref t) A s s.heap ∧ va_T .int t 6 lsF A s s.heap := by
  have hel : ∀ j : Nat, j < 6 → (Term.elem (.static "MeterRooms" "LEAST_SETTING" "[I") (.int (Int32.ofNat j))).eval args s none [] s = some (lsF j) := by
    intro j hj
    rcases (show j = 0 ∨ j = 1 ∨ j = 2 ∨ j = 3 ∨ j = 4 ∨ j = 5 by omega) with rfl | rfl | rfl | rfl | rfl | rfl
    · exact va_eqt (z := 0) (hs _ (List.mem_of_getElem? (i := 9) (by decide +kernel)))
    · exact va_eqt (z := 0) (hs _ (List.mem_of_getElem? (i := 10) (by decide +kernel)))
    · exact va_eqt (z := 0) (hs _ (List.mem_of_getElem? (i := 11) (by decide +kernel)))
    · exact va_eqt (z := 1) (hs _ (List.mem_of_getElem? (i := 12) (by decide +kernel)))
    · exact va_eqt (z := 1) (hs _ (List.mem_of_getElem? (i := 13) (by decide +kernel)))
    · exact va_eqt (z := 1) (hs _ (List.mem_of_getElem? (i := 14) (by decide +kernel)))
  obtain ⟨t, ht, hT⟩ := va_Tof (tm := .static "MeterRooms" "LEAST_SETTING" "[I") (ty := .int) (N := 6) (f := lsF) (A := A) (by decide) (hs _ (List.mem_of_getElem? (i := 7) (by decide +kernel))) (va_eqt (z := 6) (hs _ (List.mem_of_getElem? (i := 8) (by decide +kernel)))) hel hA
  exact ⟨t, va_Zref (hts _ (List.mem_of_getElem? (i := 577) (by decide +kernel))) (hts _ (List.mem_of_getElem? (i := 22) (by decide +kernel))) ht hA, hT⟩
set_option maxRecDepth 100000 in
theorem en_ms {args : Array Value} {s : State} (hts : ∀ w ∈ lw_tbl, w.before args s = true) (hs : ∀ w ∈ flatC (Jvm.Cond.and given_1 narrow_1), w.before args s = true) {A : Nat → Prop} (hA : ∀ a : Nat, a < s.heap.size → ¬ A a) : ∃ t : Nat, va_Z "MeterRooms" "MOST_SETTING" "[I" (.ref t) A s s.heap ∧ va_T .int t 6 msF A s s.heap := by
  have hel : ∀ j : Nat, j < 6 → (Term.elem (.static "MeterRooms" "MOST_SETTING" "[I") (.int (Int32.ofNat j))).eval args s none [] s = some (msF j) := by
    intro j hj
    rcases (show j = 0 ∨ j = 1 ∨ j = 2 ∨ j = 3 ∨ j = 4 ∨ j = 5 by omega) with rfl | rfl | rfl | rfl | rfl | rfl
    · exact va_eqt (z := 9999) (hs _ (List.mem_of_getElem? (i := 18) (by decide +kernel)))
    · exact va_eqt (z := 14) (hs _ (List.mem_of_getElem? (i := 19) (by decide +kernel)))
    · exact va_eqt (z := 99) (hs _ (List.mem_of_getElem? (i := 20) (by decide +kernel)))
    · exact va_eqt (z := 50) (hs _ (List.mem_of_getElem? (i := 21) (by decide +kernel)))
    · exact va_eqt (z := 100) (hs _ (List.mem_of_getElem? (i := 22) (by decide +kernel)))
    · exact va_eqt (z := 30) (hs _ (List.mem_of_getElem? (i := 23) (by decide +kernel)))
  obtain ⟨t, ht, hT⟩ := va_Tof (tm := .static "MeterRooms" "MOST_SETTING" "[I") (ty := .int) (N := 6) (f := msF) (A := A) (by decide) (hs _ (List.mem_of_getElem? (i := 16) (by decide +kernel))) (va_eqt (z := 6) (hs _ (List.mem_of_getElem? (i := 17) (by decide +kernel)))) hel hA
  exact ⟨t, va_Zref (hts _ (List.mem_of_getElem? (i := 579) (by decide +kernel))) (hts _ (List.mem_of_getElem? (i := 22) (by decide +kernel))) ht hA, hT⟩
set_option maxRecDepth 100000 in
theorem en_all {args : Array Value} {s : State} (hts : ∀ w ∈ lw_tbl, w.before args s = true) (hs : ∀ w ∈ flatC (Jvm.Cond.and given_1 narrow_1), w.before args s = true) {A : Nat → Prop} (hA : ∀ a : Nat, a < s.heap.size → ¬ A a) : ENV A s := by
  refine ⟨fun w hw => va_Nw.of ?_ (hts w (List.mem_filter.mp hw).1), ⟨en_ls hts hs hA, en_ms hts hs hA, vx_Zqof (hts _ (List.mem_of_getElem? (i := 315) (by decide +kernel))) (hts _ (List.mem_of_getElem? (i := 30) (by decide +kernel))) (hs _ (List.mem_of_getElem? (i := 4) (by decide +kernel))) hA, vx_Zqof (hts _ (List.mem_of_getElem? (i := 317) (by decide +kernel))) (hts _ (List.mem_of_getElem? (i := 30) (by decide +kernel))) (hs _ (List.mem_of_getElem? (i := 5) (by decide +kernel))) hA⟩, en_str hts hs, va_AO.of (hts _ (List.mem_of_getElem? (i := 130) (by decide +kernel))), va_AO.of (hts _ (List.mem_of_getElem? (i := 227) (by decide +kernel)))⟩
  have h2 := (List.mem_filter.mp hw).2
  cases w <;> first | (simp [isNest] at h2; done) | rfl
theorem en_nc {args : Array Value} {s : State} (hts : ∀ w ∈ lw_tbl, w.before args s = true) (hs : ∀ w ∈ flatC (Jvm.Cond.and given_1 narrow_1), w.before args s = true) : NC s := ⟨va_Nc.of (hs _ (List.mem_of_getElem? (i := 32) (by decide +kernel))), va_Nc.of (hs _ (List.mem_of_getElem? (i := 52) (by decide +kernel))), va_Nc.of (hs _ (List.mem_of_getElem? (i := 53) (by decide +kernel)))⟩
