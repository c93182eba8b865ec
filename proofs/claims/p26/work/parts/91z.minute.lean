set_option maxRecDepth 100000 in
set_option maxHeartbeats 8000000 in
theorem c_minute (l : Launch) (hst : l.stackTraces = false) (G : va_G) (kk : Nat → ClassId) {B : Nat} {σ : SG} {ho hq : Nat} {wa wb : va_W} (hB : B ≤ 80000) (oa : OB kk B σ ho wa) (ob : OB kk B σ hq wb) (hm : 1 ≤ mF σ.1) {N : Nat} (hN : N < 2147483648) : CG l yL_minute cL_minute 18 (some .boolean) (rmG 9 188 60 360) [.ref ho, .ref hq, .int (nI N)] G kk (wa ++ wb) 60 360 (QG G kk (wa ++ wb) (fun w r => OB2 kk (B + 60) (sUndo (sPush σ (RUNF σ.1 1))) ho hq w ∧ r = 1)) := by
  have ok := oa.row.1
  have okx := oa.row.2
  have hm6 := ok.1
  obtain ⟨σ1, hσ⟩ : ∃ σ1 : SG, σ1 = sPush σ (RUNF σ.1 1) := ⟨_, rfl⟩
  rw [← hσ]
  have f1 : σ1.1 = RUNF σ.1 1 := by rw [hσ]; rfl
  have f2 : (sUndo σ1).1 = σ.1 := by rw [hσ]; exact undo_row
  have hc1 : ¬ σ1.2.1 = 0 := by rw [hσ]; exact push_ne
  have hc2 : σ1.2.1 ≤ 14 := by rw [hσ]; exact push_le
  have m1 : mF σ1.1 = mF σ.1 := by rw [f1]; exact mF_run hm6 1
  have m2 : mF (sUndo σ1).1 = mF σ.1 := by rw [f2]
  obtain ⟨i, hie⟩ : ∃ i, i = N % mF σ.1 := ⟨_, rfl⟩
  have hi : i < mF σ.1 := by rw [hie]; exact Nat.mod_lt _ (by omega)
  have hz := (ok.2.2.2.2.2.2.2.2.2.2 i (by omega)).2.2.1
  have hf0 := (ok.2.2.2.2.2.2.2.2.2.2 i (by omega)).2.2.2.1
  have hf1 := (ok.2.2.2.2.2.2.2.2.2.2 i (by omega)).2.2.2.2.1
  obtain ⟨r0, r1, r2, r3, r4, r5, r6, r7⟩ := run1_room (by omega) ok hi
  rw [← f1] at r0 r1 r2 r3 r4 r5 r6 r7
  refine cg2_start (by decide +kernel) (Nat.le_of_ble_eq_true rfl) (Or.inr rfl) ?_
  intro p e s m args below meth c A ls Q X hP hD hS hl FIN
  have X : LM p l e (rmG 9 188 60 360) s m args below meth c cL_minute 18 RL G kk A := X
  have hl : lv_has ls 18 [(0, .ref ho), (1, .ref hq), (2, .int (nI N))] := hl
  have a0 : wa.map (fun q => q.1) = wa.map (fun q => q.1) := rfl
  have b0 : wb.map (fun q => q.1) = wb.map (fun q => q.1) := rfl
  refine lv_aload_n X.1 X.2.1 dL_minute_0 rfl (lv_at hl 0 rfl) ?_
  refine lv_iconst (v := 2) X.1 X.2.1 dL_minute_1 (by decide) ?_
  refine lv_iconst (v := 0) X.1 X.2.1 dL_minute_2 (by decide) ?_
  refine lv_iconst (v := 0) X.1 X.2.1 dL_minute_3 (by decide) ?_
  refine lv_iconst (v := 0) X.1 X.2.1 dL_minute_4 (by decide) ?_
  refine kGL (rest := []) (As := [.ref ho, .int 2, .int 0, .int 0, .int 0]) X hP hD hS hl.1 oa.len (q_about l hst G kk (by omega) oa (0 : Int32) 0 0 ) sl_L_138 ⟨Nat.le_of_ble_eq_true rfl, Nat.le_of_ble_eq_true rfl, rfl, rfl⟩ ⟨by show _ ≤ 60; omega, by show _ ≤ 360; omega⟩ rfl (Nat.le_of_ble_eq_true rfl) dL_minute_5 (fun w1 r1 H locs hΦ a1 hP hD hS => ?_)
  obtain ⟨o1, rfl⟩ := hΦ
  replace a1 := a1.trans a0
  refine top_eq (y := (nI (mF σ.1))) (qa_0 ok) ?_
  refine lv_istore_n (lv' := [(3, .int (nI (mF σ.1))), (0, .ref ho), (1, .ref hq), (2, .int (nI N))]) X.1 X.2.1 dL_minute_8 rfl hl (by decide) rfl (fun ls hl => ?_)
  refine lv_iload_n X.1 X.2.1 dL_minute_9 rfl (lv_at hl 3 rfl) ?_
  refine lv_iload_n X.1 X.2.1 dL_minute_10 rfl (lv_at hl 0 rfl) ?_
  refine lv_irem X.1 X.2.1 dL_minute_11 (ne_c (by rw [t_n (by omega)]; show _ ≠ (0 : Int); omega)) ?_
  refine top_eq (y := (nI (N % (mF σ.1)))) (md (b := (mF σ.1)) (t_n (by omega)) (by omega) (by omega)) ?_
  refine top_eq (y := (nI i)) (by rw [hie]) ?_
  refine lv_istore (lv' := [(4, .int (nI i)), (3, .int (nI (mF σ.1))), (0, .ref ho), (1, .ref hq), (2, .int (nI N))]) X.1 X.2.1 dL_minute_12 hl (by decide) rfl (fun ls hl => ?_)
  refine lv_aload_n X.1 X.2.1 dL_minute_14 rfl (lv_at hl 2 rfl) ?_
  refine lv_iconst (v := 4) X.1 X.2.1 dL_minute_15 (by decide) ?_
  refine lv_iload X.1 X.2.1 dL_minute_16 (lv_at hl 0 rfl) ?_
  refine lv_iconst (v := 0) X.1 X.2.1 dL_minute_18 (by decide) ?_
  refine lv_iconst (v := 0) X.1 X.2.1 dL_minute_19 (by decide) ?_
  rcases (hx_case (by omega) ok okx hi).imp (fun h => h.1) (fun h => h.imp (fun h => h.1) (fun h => h.imp (fun h => h.1) (fun h => h.imp (fun h => h.1) (fun h => h.imp (fun h => h.1) (fun h => h.1))))) with hd1 | hd1 | hd1 | (hd1 | hd1) | (hd1 | hd1) | hd1
  · skip
    refine kGL (rest := []) (As := [.ref ho, .int 4, .int (nI i), .int 0, .int 0]) X hP hD hS hl.1 o1.len (q_does l hst G kk (by omega) o1 (nI i) 0 0 ) sl_L_138 ⟨Nat.le_of_ble_eq_true rfl, Nat.le_of_ble_eq_true rfl, rfl, rfl⟩ ⟨by show _ ≤ 60; omega, by show _ ≤ 360; omega⟩ rfl (Nat.le_of_ble_eq_true rfl) dL_minute_20 (fun w2 r2 H locs hΦ a2 hP hD hS => ?_)
    obtain ⟨o2, rfl⟩ := hΦ
    replace a2 := a2.trans a1
    refine top_eq (y := 0) ((qd_at ok hi).trans hd1) ?_
    refine lv_istore (lv' := [(5, .int 0), (4, .int (nI i)), (3, .int (nI (mF σ.1))), (0, .ref ho), (1, .ref hq), (2, .int (nI N))]) X.1 X.2.1 dL_minute_23 hl (by decide) rfl (fun ls hl => ?_)
    refine lv_aload_n X.1 X.2.1 dL_minute_25 rfl (lv_at hl 3 rfl) ?_
    refine lv_iconst (v := 3) X.1 X.2.1 dL_minute_26 (by decide) ?_
    refine lv_iload X.1 X.2.1 dL_minute_27 (lv_at hl 1 rfl) ?_
    refine lv_iconst (v := 3) X.1 X.2.1 dL_minute_29 (by decide) ?_
    refine lv_iconst (v := 0) X.1 X.2.1 dL_minute_30 (by decide) ?_
    refine kGL (rest := []) (As := [.ref ho, .int 3, .int (nI i), .int 3, .int 0]) X hP hD hS hl.1 o2.len (q_room l hst G kk (by omega) o2 (nI i) (3 : Int32) 0 ) sl_L_138 ⟨Nat.le_of_ble_eq_true rfl, Nat.le_of_ble_eq_true rfl, rfl, rfl⟩ ⟨by show _ ≤ 60; omega, by show _ ≤ 360; omega⟩ rfl (Nat.le_of_ble_eq_true rfl) dL_minute_31 (fun w3 r3 H locs hΦ a3 hP hD hS => ?_)
    obtain ⟨o3, rfl⟩ := hΦ
    replace a3 := a3.trans a2
    refine top_eq (y := (σ.1 (16 + 8 * i + 3))) (qr_at ok (w := 3) hi (by decide)) ?_
    refine lv_istore (lv' := [(6, .int (σ.1 (16 + 8 * i + 3))), (5, .int 0), (4, .int (nI i)), (3, .int (nI (mF σ.1))), (0, .ref ho), (1, .ref hq), (2, .int (nI N))]) X.1 X.2.1 dL_minute_34 hl (by decide) rfl (fun ls hl => ?_)
    refine lv_aload_n X.1 X.2.1 dL_minute_36 rfl (lv_at hl 4 rfl) ?_
    refine lv_iconst (v := 3) X.1 X.2.1 dL_minute_37 (by decide) ?_
    refine lv_iload X.1 X.2.1 dL_minute_38 (lv_at hl 2 rfl) ?_
    refine lv_iconst (v := 5) X.1 X.2.1 dL_minute_40 (by decide) ?_
    refine lv_iconst (v := 0) X.1 X.2.1 dL_minute_41 (by decide) ?_
    refine kGL (rest := []) (As := [.ref ho, .int 3, .int (nI i), .int 5, .int 0]) X hP hD hS hl.1 o3.len (q_room l hst G kk (by omega) o3 (nI i) (5 : Int32) 0 ) sl_L_138 ⟨Nat.le_of_ble_eq_true rfl, Nat.le_of_ble_eq_true rfl, rfl, rfl⟩ ⟨by show _ ≤ 60; omega, by show _ ≤ 360; omega⟩ rfl (Nat.le_of_ble_eq_true rfl) dL_minute_42 (fun w4 r4 H locs hΦ a4 hP hD hS => ?_)
    obtain ⟨o4, rfl⟩ := hΦ
    replace a4 := a4.trans a3
    refine top_eq (y := (σ.1 (16 + 8 * i + 5))) (qr_at ok (w := 5) hi (by decide)) ?_
    refine lv_istore (lv' := [(7, .int (σ.1 (16 + 8 * i + 5))), (6, .int (σ.1 (16 + 8 * i + 3))), (5, .int 0), (4, .int (nI i)), (3, .int (nI (mF σ.1))), (0, .ref ho), (1, .ref hq), (2, .int (nI N))]) X.1 X.2.1 dL_minute_45 hl (by decide) rfl (fun ls hl => ?_)
    refine lv_aload_n X.1 X.2.1 dL_minute_47 rfl (lv_at hl 5 rfl) ?_
    refine lv_iconst (v := 3) X.1 X.2.1 dL_minute_48 (by decide) ?_
    refine lv_iload X.1 X.2.1 dL_minute_49 (lv_at hl 3 rfl) ?_
    refine lv_bipush (v := 7) X.1 X.2.1 dL_minute_51 (by decide) ?_
    refine lv_iconst (v := 0) X.1 X.2.1 dL_minute_53 (by decide) ?_
    refine kGL (rest := []) (As := [.ref ho, .int 3, .int (nI i), .int 7, .int 0]) X hP hD hS hl.1 o4.len (q_room l hst G kk (by omega) o4 (nI i) (7 : Int32) 0 ) sl_L_138 ⟨Nat.le_of_ble_eq_true rfl, Nat.le_of_ble_eq_true rfl, rfl, rfl⟩ ⟨by show _ ≤ 60; omega, by show _ ≤ 360; omega⟩ rfl (Nat.le_of_ble_eq_true rfl) dL_minute_54 (fun w5 r5 H locs hΦ a5 hP hD hS => ?_)
    obtain ⟨o5, rfl⟩ := hΦ
    replace a5 := a5.trans a4
    refine top_eq (y := (σ.1 (16 + 8 * i + 7))) (qr_at ok (w := 7) hi (by decide)) ?_
    refine lv_istore (lv' := [(8, .int (σ.1 (16 + 8 * i + 7))), (7, .int (σ.1 (16 + 8 * i + 5))), (6, .int (σ.1 (16 + 8 * i + 3))), (5, .int 0), (4, .int (nI i)), (3, .int (nI (mF σ.1))), (0, .ref ho), (1, .ref hq), (2, .int (nI N))]) X.1 X.2.1 dL_minute_57 hl (by decide) rfl (fun ls hl => ?_)
    refine lv_aload_n X.1 X.2.1 dL_minute_59 rfl (lv_at hl 6 rfl) ?_
    refine lv_iconst (v := 3) X.1 X.2.1 dL_minute_60 (by decide) ?_
    refine lv_iload X.1 X.2.1 dL_minute_61 (lv_at hl 4 rfl) ?_
    refine lv_iconst (v := 4) X.1 X.2.1 dL_minute_63 (by decide) ?_
    refine lv_iconst (v := 0) X.1 X.2.1 dL_minute_64 (by decide) ?_
    refine kGL (rest := []) (As := [.ref ho, .int 3, .int (nI i), .int 4, .int 0]) X hP hD hS hl.1 o5.len (q_room l hst G kk (by omega) o5 (nI i) (4 : Int32) 0 ) sl_L_138 ⟨Nat.le_of_ble_eq_true rfl, Nat.le_of_ble_eq_true rfl, rfl, rfl⟩ ⟨by show _ ≤ 60; omega, by show _ ≤ 360; omega⟩ rfl (Nat.le_of_ble_eq_true rfl) dL_minute_65 (fun w6 r6 H locs hΦ a6 hP hD hS => ?_)
    obtain ⟨o6, rfl⟩ := hΦ
    replace a6 := a6.trans a5
    refine top_eq (y := (σ.1 (16 + 8 * i + 4))) (qr_at ok (w := 4) hi (by decide)) ?_
    refine lv_istore (lv' := [(9, .int (σ.1 (16 + 8 * i + 4))), (8, .int (σ.1 (16 + 8 * i + 7))), (7, .int (σ.1 (16 + 8 * i + 5))), (6, .int (σ.1 (16 + 8 * i + 3))), (5, .int 0), (4, .int (nI i)), (3, .int (nI (mF σ.1))), (0, .ref ho), (1, .ref hq), (2, .int (nI N))]) X.1 X.2.1 dL_minute_68 hl (by decide) rfl (fun ls hl => ?_)
    refine lv_aload_n X.1 X.2.1 dL_minute_70 rfl (lv_at hl 7 rfl) ?_
    refine lv_bipush (v := 12) X.1 X.2.1 dL_minute_71 (by decide) ?_
    refine lv_iconst (v := 1) X.1 X.2.1 dL_minute_73 (by decide) ?_
    refine lv_iconst (v := 0) X.1 X.2.1 dL_minute_74 (by decide) ?_
    refine lv_iconst (v := 0) X.1 X.2.1 dL_minute_75 (by decide) ?_
    refine kGL (rest := []) (As := [.ref ho, .int 12, .int 1, .int 0, .int 0]) X hP hD hS hl.1 o6.len (q_coming l hst G kk (by omega) o6 (1 : Int32) (0 : Int32) 0 (rfl) (Or.inl rfl)) sl_L_138 ⟨Nat.le_of_ble_eq_true rfl, Nat.le_of_ble_eq_true rfl, rfl, rfl⟩ ⟨by show _ ≤ 60; omega, by show _ ≤ 360; omega⟩ rfl (Nat.le_of_ble_eq_true rfl) dL_minute_76 (fun w7 r7 H locs hΦ a7 hP hD hS => ?_)
    obtain ⟨o7, rfl⟩ := hΦ
    replace a7 := a7.trans a6
    refine top_eq (y := (RUNF σ.1 1 5 - σ.1 5)) (if_pos rfl) ?_
    refine lv_istore (lv' := [(10, .int (RUNF σ.1 1 5 - σ.1 5)), (9, .int (σ.1 (16 + 8 * i + 4))), (8, .int (σ.1 (16 + 8 * i + 7))), (7, .int (σ.1 (16 + 8 * i + 5))), (6, .int (σ.1 (16 + 8 * i + 3))), (5, .int 0), (4, .int (nI i)), (3, .int (nI (mF σ.1))), (0, .ref ho), (1, .ref hq), (2, .int (nI N))]) X.1 X.2.1 dL_minute_79 hl (by decide) rfl (fun ls hl => ?_)
    refine lv_aload_n X.1 X.2.1 dL_minute_81 rfl (lv_at hl 8 rfl) ?_
    refine lv_iconst (v := 2) X.1 X.2.1 dL_minute_82 (by decide) ?_
    refine lv_bipush (v := 8) X.1 X.2.1 dL_minute_83 (by decide) ?_
    refine lv_iconst (v := 0) X.1 X.2.1 dL_minute_85 (by decide) ?_
    refine lv_iconst (v := 0) X.1 X.2.1 dL_minute_86 (by decide) ?_
    refine kGL (rest := []) (As := [.ref ho, .int 2, .int 8, .int 0, .int 0]) X hP hD hS hl.1 o7.len (q_about l hst G kk (by omega) o7 (8 : Int32) 0 0 ) sl_L_138 ⟨Nat.le_of_ble_eq_true rfl, Nat.le_of_ble_eq_true rfl, rfl, rfl⟩ ⟨by show _ ≤ 60; omega, by show _ ≤ 360; omega⟩ rfl (Nat.le_of_ble_eq_true rfl) dL_minute_87 (fun w8 r8 H locs hΦ a8 hP hD hS => ?_)
    obtain ⟨o8, rfl⟩ := hΦ
    replace a8 := a8.trans a7
    refine top_eq (y := (σ.1 7)) (qa_8 σ.1) ?_
    refine lv_aload_n X.1 X.2.1 dL_minute_90 rfl (lv_at hl 8 rfl) ?_
    refine lv_bipush (v := 12) X.1 X.2.1 dL_minute_91 (by decide) ?_
    refine lv_iconst (v := 1) X.1 X.2.1 dL_minute_93 (by decide) ?_
    refine lv_iconst (v := 3) X.1 X.2.1 dL_minute_94 (by decide) ?_
    refine lv_iconst (v := 0) X.1 X.2.1 dL_minute_95 (by decide) ?_
    refine kGL (rest := [.int (σ.1 7)]) (As := [.ref ho, .int 12, .int 1, .int 3, .int 0]) X hP hD hS hl.1 o8.len (q_coming l hst G kk (by omega) o8 (1 : Int32) (3 : Int32) 0 (rfl) (Or.inr rfl)) sl_L_138 ⟨Nat.le_of_ble_eq_true rfl, Nat.le_of_ble_eq_true rfl, rfl, rfl⟩ ⟨by show _ ≤ 60; omega, by show _ ≤ 360; omega⟩ rfl (Nat.le_of_ble_eq_true rfl) dL_minute_96 (fun w9 r9 H locs hΦ a9 hP hD hS => ?_)
    obtain ⟨o9, rfl⟩ := hΦ
    replace a9 := a9.trans a8
    refine top_eq (y := (RUNF σ.1 1 7 - σ.1 7)) (if_neg (by decide)) ?_
    refine lv_iadd X.1 X.2.1 dL_minute_99 ?_
    refine lv_istore (lv' := [(11, .int ((σ.1 7) + (RUNF σ.1 1 7 - σ.1 7))), (10, .int (RUNF σ.1 1 5 - σ.1 5)), (9, .int (σ.1 (16 + 8 * i + 4))), (8, .int (σ.1 (16 + 8 * i + 7))), (7, .int (σ.1 (16 + 8 * i + 5))), (6, .int (σ.1 (16 + 8 * i + 3))), (5, .int 0), (4, .int (nI i)), (3, .int (nI (mF σ.1))), (0, .ref ho), (1, .ref hq), (2, .int (nI N))]) X.1 X.2.1 dL_minute_100 hl (by decide) rfl (fun ls hl => ?_)
    refine lv_aload_n X.1 X.2.1 dL_minute_102 rfl (lv_at hl 9 rfl) ?_
    refine lv_bipush (v := 11) X.1 X.2.1 dL_minute_103 (by decide) ?_
    refine lv_iload X.1 X.2.1 dL_minute_105 (lv_at hl 7 rfl) ?_
    refine lv_iconst (v := 0) X.1 X.2.1 dL_minute_107 (by decide) ?_
    refine lv_iconst (v := 0) X.1 X.2.1 dL_minute_108 (by decide) ?_
    refine kGL (rest := []) (As := [.ref ho, .int 11, .int (nI i), .int 0, .int 0]) X hP hD hS hl.1 o9.len (q_warm l hst G kk (by omega) o9 (nI i) 0 0 (ir_yes ok hi)) sl_L_138 ⟨Nat.le_of_ble_eq_true rfl, Nat.le_of_ble_eq_true rfl, rfl, rfl⟩ ⟨by show _ ≤ 60; omega, by show _ ≤ 360; omega⟩ rfl (Nat.le_of_ble_eq_true rfl) dL_minute_109 (fun w10 r10 H locs hΦ a10 hP hD hS => ?_)
    obtain ⟨o10, p10⟩ := hΦ
    replace a10 := a10.trans a9
    refine lv_istore (lv' := [(12, .int r10), (11, .int ((σ.1 7) + (RUNF σ.1 1 7 - σ.1 7))), (10, .int (RUNF σ.1 1 5 - σ.1 5)), (9, .int (σ.1 (16 + 8 * i + 4))), (8, .int (σ.1 (16 + 8 * i + 7))), (7, .int (σ.1 (16 + 8 * i + 5))), (6, .int (σ.1 (16 + 8 * i + 3))), (5, .int 0), (4, .int (nI i)), (3, .int (nI (mF σ.1))), (0, .ref ho), (1, .ref hq), (2, .int (nI N))]) X.1 X.2.1 dL_minute_112 hl (by decide) rfl (fun ls hl => ?_)
    refine lv_iload X.1 X.2.1 dL_minute_114 (lv_at hl 7 rfl) ?_
    refine lv_iconst (v := 1) X.1 X.2.1 dL_minute_116 (by decide) ?_
    refine lv_icmp_eq (tgt := 126) X.1 X.2.1 dL_minute_117 (by decide) (fun c_117 => absurd c_117 (by decide)) (fun c_117 => ?_)
    refine lv_iload X.1 X.2.1 dL_minute_120 (lv_at hl 7 rfl) ?_
    refine lv_iconst (v := 3) X.1 X.2.1 dL_minute_122 (by decide) ?_
    refine lv_icmp_ne (tgt := 130) X.1 X.2.1 dL_minute_123 (by decide) (fun c_123 => ?_) (fun c_123 => absurd c_123 (by decide))
    refine lv_iconst (v := 0) X.1 X.2.1 dL_minute_130 (by decide) ?_
    refine lv_istore (lv' := [(13, .int 0), (12, .int r10), (11, .int ((σ.1 7) + (RUNF σ.1 1 7 - σ.1 7))), (10, .int (RUNF σ.1 1 5 - σ.1 5)), (9, .int (σ.1 (16 + 8 * i + 4))), (8, .int (σ.1 (16 + 8 * i + 7))), (7, .int (σ.1 (16 + 8 * i + 5))), (6, .int (σ.1 (16 + 8 * i + 3))), (5, .int 0), (4, .int (nI i)), (3, .int (nI (mF σ.1))), (0, .ref ho), (1, .ref hq), (2, .int (nI N))]) X.1 X.2.1 dL_minute_131 hl (by decide) rfl (fun ls hl => ?_)
    refine lv_iload X.1 X.2.1 dL_minute_133 (lv_at hl 8 rfl) ?_
    refine lv_if_eq (tgt := 150) X.1 X.2.1 dL_minute_135 (by decide) (fun c_135 => ?_) (fun c_135 => absurd (by decide) c_135)
    refine lv_iconst (v := 1) X.1 X.2.1 dL_minute_150 (by decide) ?_
    refine lv_goto (tgt := 155) X.1 X.2.1 dL_minute_151 (by decide) ?_
    refine lv_istore (lv' := [(14, .int 1), (13, .int 0), (12, .int r10), (11, .int ((σ.1 7) + (RUNF σ.1 1 7 - σ.1 7))), (10, .int (RUNF σ.1 1 5 - σ.1 5)), (9, .int (σ.1 (16 + 8 * i + 4))), (8, .int (σ.1 (16 + 8 * i + 7))), (7, .int (σ.1 (16 + 8 * i + 5))), (6, .int (σ.1 (16 + 8 * i + 3))), (5, .int 0), (4, .int (nI i)), (3, .int (nI (mF σ.1))), (0, .ref ho), (1, .ref hq), (2, .int (nI N))]) X.1 X.2.1 dL_minute_155 hl (by decide) rfl (fun ls hl => ?_)
    refine lv_iload X.1 X.2.1 dL_minute_157 (lv_at hl 8 rfl) ?_
    refine lv_iload X.1 X.2.1 dL_minute_159 (lv_at hl 1 rfl) ?_
    refine lv_if_eq (tgt := 175) X.1 X.2.1 dL_minute_161 (by decide) (fun c_161 => ?_) (fun c_161 => absurd (by decide) c_161)
    refine lv_iload X.1 X.2.1 dL_minute_175 (lv_at hl 0 rfl) ?_
    refine lv_if_eq (tgt := 185) X.1 X.2.1 dL_minute_177 (by decide) (fun c_177 => absurd c_177 (by decide)) (fun c_177 => ?_)
    refine lv_bipush (v := 6) X.1 X.2.1 dL_minute_180 (by decide) ?_
    refine lv_goto (tgt := 186) X.1 X.2.1 dL_minute_182 (by decide) ?_
    refine lv_iadd X.1 X.2.1 dL_minute_186 ?_
    refine lv_iconst (v := 4) X.1 X.2.1 dL_minute_187 (by decide) ?_
    refine lv_iload X.1 X.2.1 dL_minute_188 (lv_at hl 5 rfl) ?_
    refine lv_imul X.1 X.2.1 dL_minute_190 ?_
    refine lv_iadd X.1 X.2.1 dL_minute_191 ?_
    refine lv_istore (lv' := [(15, .int (((σ.1 (16 + 8 * i + 3)) + 6) + (4 * (σ.1 (16 + 8 * i + 4))))), (14, .int 1), (13, .int 0), (12, .int r10), (11, .int ((σ.1 7) + (RUNF σ.1 1 7 - σ.1 7))), (10, .int (RUNF σ.1 1 5 - σ.1 5)), (9, .int (σ.1 (16 + 8 * i + 4))), (8, .int (σ.1 (16 + 8 * i + 7))), (7, .int (σ.1 (16 + 8 * i + 5))), (6, .int (σ.1 (16 + 8 * i + 3))), (5, .int 0), (4, .int (nI i)), (3, .int (nI (mF σ.1))), (0, .ref ho), (1, .ref hq), (2, .int (nI N))]) X.1 X.2.1 dL_minute_192 hl (by decide) rfl (fun ls hl => ?_)
    refine lv_iload X.1 X.2.1 dL_minute_194 (lv_at hl 0 rfl) ?_
    refine lv_sipush (v := 400) X.1 X.2.1 dL_minute_196 (by decide) ?_
    have eT : sX8_clamp ((((σ.1 (16 + 8 * i + 3)) + 6) + (4 * (σ.1 (16 + 8 * i + 4))))) (-400) 400 = Tn σ.1 (JB σ.1 i) i := by rw [hd1]; exact tn_val (x := 0) hz
    suffices J15 : ∀ v15 : Int32, v15 = Tn σ.1 (JB σ.1 i) i → W p l e (rmG 9 188 60 360) s m args below meth c H locs ((((((((((0 + 1) + 1) + 1) + 1) + 1) + 1) + 1) + 1) + 1) + 1) ((((((((((0 + 6) + 6) + 6) + 6) + 6) + 6) + 6) + 6) + 6) + 6) Q (F0 m 224 ls [.int v15]) by
      refine lv_icmp_le (tgt := 208) X.1 X.2.1 dL_minute_199 (by decide) (fun c_199 => ?_) (fun c_199 => ?_)
      · skip
        refine lv_iload X.1 X.2.1 dL_minute_208 (lv_at hl 0 rfl) ?_
        refine lv_sipush (v := (-400)) X.1 X.2.1 dL_minute_210 (by decide) ?_
        refine lv_icmp_ge (tgt := 222) X.1 X.2.1 dL_minute_213 (by decide) (fun c_213 => ?_) (fun c_213 => ?_)
        · skip
          refine lv_iload X.1 X.2.1 dL_minute_222 (lv_at hl 0 rfl) ?_
          exact J15 _ ((cl_mid c_199 c_213).trans eT)
        · skip
          refine lv_sipush (v := (-400)) X.1 X.2.1 dL_minute_216 (by decide) ?_
          refine lv_goto (tgt := 224) X.1 X.2.1 dL_minute_219 (by decide) ?_
          exact J15 _ ((cl_lo c_213).trans eT)
      · skip
        refine lv_sipush (v := 400) X.1 X.2.1 dL_minute_202 (by decide) ?_
        refine lv_goto (tgt := 224) X.1 X.2.1 dL_minute_205 (by decide) ?_
        exact J15 _ ((cl_hi c_199).trans eT)
    intro v15 h15
    refine lv_istore (lv' := [(15, .int v15), (14, .int 1), (13, .int 0), (12, .int r10), (11, .int ((σ.1 7) + (RUNF σ.1 1 7 - σ.1 7))), (10, .int (RUNF σ.1 1 5 - σ.1 5)), (9, .int (σ.1 (16 + 8 * i + 4))), (8, .int (σ.1 (16 + 8 * i + 7))), (7, .int (σ.1 (16 + 8 * i + 5))), (6, .int (σ.1 (16 + 8 * i + 3))), (5, .int 0), (4, .int (nI i)), (3, .int (nI (mF σ.1))), (0, .ref ho), (1, .ref hq), (2, .int (nI N))]) X.1 X.2.1 dL_minute_224 hl (by decide) rfl (fun ls hl => ?_)
    refine lv_iload X.1 X.2.1 dL_minute_226 (lv_at hl 1 rfl) ?_
    refine lv_if_eq (tgt := 250) X.1 X.2.1 dL_minute_228 (by decide) (fun c_228 => absurd c_228 (by decide)) (fun c_228 => ?_)
    refine lv_iload X.1 X.2.1 dL_minute_231 (lv_at hl 8 rfl) ?_
    refine lv_bipush (v := 10) X.1 X.2.1 dL_minute_233 (by decide) ?_
    suffices J16 : ∀ v16 : Int32, (if v16 ≤ 100 then v16 else 100) = Fn σ.1 (JB σ.1 i) i → W p l e (rmG 9 188 60 360) s m args below meth c H locs ((((((((((0 + 1) + 1) + 1) + 1) + 1) + 1) + 1) + 1) + 1) + 1) ((((((((((0 + 6) + 6) + 6) + 6) + 6) + 6) + 6) + 6) + 6) + 6) Q (F0 m 268 ls [.int v16]) by
      refine lv_icmp_le (tgt := 246) X.1 X.2.1 dL_minute_235 (by decide) (fun c_235 => ?_) (fun c_235 => ?_)
      · skip
        refine lv_iconst (v := 0) X.1 X.2.1 dL_minute_246 (by decide) ?_
        refine lv_goto (tgt := 268) X.1 X.2.1 dL_minute_247 (by decide) ?_
        exact J16 _ (by rw [hd1]; exact fn_hot0 hf0 (by decide) c_235)
      · skip
        refine lv_iload X.1 X.2.1 dL_minute_238 (lv_at hl 8 rfl) ?_
        refine lv_bipush (v := 10) X.1 X.2.1 dL_minute_240 (by decide) ?_
        refine lv_isub X.1 X.2.1 dL_minute_242 ?_
        refine lv_goto (tgt := 268) X.1 X.2.1 dL_minute_243 (by decide) ?_
        exact J16 _ (by rw [hd1]; exact fn_hot1 hf1 (by decide) c_235)
    intro v16 h16
    refine lv_istore (lv' := [(16, .int v16), (15, .int v15), (14, .int 1), (13, .int 0), (12, .int r10), (11, .int ((σ.1 7) + (RUNF σ.1 1 7 - σ.1 7))), (10, .int (RUNF σ.1 1 5 - σ.1 5)), (9, .int (σ.1 (16 + 8 * i + 4))), (8, .int (σ.1 (16 + 8 * i + 7))), (7, .int (σ.1 (16 + 8 * i + 5))), (6, .int (σ.1 (16 + 8 * i + 3))), (5, .int 0), (4, .int (nI i)), (3, .int (nI (mF σ.1))), (0, .ref ho), (1, .ref hq), (2, .int (nI N))]) X.1 X.2.1 dL_minute_268 hl (by decide) rfl (fun ls hl => ?_)
    refine lv_aload_n X.1 X.2.1 dL_minute_270 rfl (lv_at hl 14 rfl) ?_
    refine lv_bipush (v := 8) X.1 X.2.1 dL_minute_271 (by decide) ?_
    refine lv_iconst (v := 1) X.1 X.2.1 dL_minute_273 (by decide) ?_
    refine lv_iconst (v := 0) X.1 X.2.1 dL_minute_274 (by decide) ?_
    refine lv_iconst (v := 0) X.1 X.2.1 dL_minute_275 (by decide) ?_
    refine kGL (rest := []) (As := [.ref ho, .int 8, .int 1, .int 0, .int 0]) X hP hD hS hl.1 o10.len (q_run l hst G kk (by omega) o10 (1 : Int32) 0 0 (by decide)) sl_L_138 ⟨Nat.le_of_ble_eq_true rfl, Nat.le_of_ble_eq_true rfl, rfl, rfl⟩ ⟨by show _ ≤ 60; omega, by show _ ≤ 360; omega⟩ rfl (Nat.le_of_ble_eq_true rfl) dL_minute_276 (fun w11 r11 H locs hΦ a11 hP hD hS => ?_)
    obtain ⟨o11, rfl⟩ := hΦ
    replace a11 := a11.trans a10
    replace o11 : OB kk (B + 60) σ1 ho w11 := by rw [hσ]; exact o11
    have okA := o11.row.1
    have h1i : i < mF σ1.1 := by rw [m1]; exact hi
    refine top_eq (y := (RUNF σ.1 1 5 - σ.1 5)) (by rw [show (1 : Int32).toNatClampNeg = 1 from rfl]) ?_
    refine lv_iload X.1 X.2.1 dL_minute_279 (lv_at hl 6 rfl) ?_
    refine lv_icmp_ne (tgt := 416) X.1 X.2.1 dL_minute_281 (by decide) (fun c_281 => absurd (rfl) c_281) (fun c_281 => ?_)
    refine lv_aload_n X.1 X.2.1 dL_minute_284 rfl (lv_at hl 15 rfl) ?_
    refine lv_bipush (v := 8) X.1 X.2.1 dL_minute_285 (by decide) ?_
    refine lv_iconst (v := 1) X.1 X.2.1 dL_minute_287 (by decide) ?_
    refine lv_iconst (v := 0) X.1 X.2.1 dL_minute_288 (by decide) ?_
    refine lv_iconst (v := 0) X.1 X.2.1 dL_minute_289 (by decide) ?_
    refine kGR (rest := []) (As := [.ref hq, .int 8, .int 1, .int 0, .int 0]) X hP hD hS hl.1 ob.len o11.len (q_run l hst G kk (by omega) ob (1 : Int32) 0 0 (by decide)) sl_L_138 ⟨Nat.le_of_ble_eq_true rfl, Nat.le_of_ble_eq_true rfl, rfl, rfl⟩ ⟨by show _ ≤ 60; omega, by show _ ≤ 360; omega⟩ rfl (Nat.le_of_ble_eq_true rfl) dL_minute_290 (fun w12 r12 H locs hΦ a12 hP hD hS => ?_)
    obtain ⟨o12, rfl⟩ := hΦ
    replace a12 := a12.trans b0
    replace o12 : OB kk (B + 60) σ1 hq w12 := by rw [hσ]; exact o12
    refine top_eq (y := (RUNF σ.1 1 5 - σ.1 5)) (by rw [show (1 : Int32).toNatClampNeg = 1 from rfl]) ?_
    refine lv_iload X.1 X.2.1 dL_minute_293 (lv_at hl 6 rfl) ?_
    refine lv_icmp_ne (tgt := 416) X.1 X.2.1 dL_minute_295 (by decide) (fun c_295 => absurd (rfl) c_295) (fun c_295 => ?_)
    refine lv_aload_n X.1 X.2.1 dL_minute_298 rfl (lv_at hl 14 rfl) ?_
    refine lv_iconst (v := 3) X.1 X.2.1 dL_minute_299 (by decide) ?_
    refine lv_iload X.1 X.2.1 dL_minute_300 (lv_at hl 12 rfl) ?_
    refine lv_iconst (v := 3) X.1 X.2.1 dL_minute_302 (by decide) ?_
    refine lv_iconst (v := 0) X.1 X.2.1 dL_minute_303 (by decide) ?_
    refine kGL (rest := []) (As := [.ref ho, .int 3, .int (nI i), .int 3, .int 0]) X hP hD hS hl.1 o11.len (q_room l hst G kk (by omega) o11 (nI i) (3 : Int32) 0 ) sl_L_138 ⟨Nat.le_of_ble_eq_true rfl, Nat.le_of_ble_eq_true rfl, rfl, rfl⟩ ⟨by show _ ≤ 60; omega, by show _ ≤ 360; omega⟩ rfl (Nat.le_of_ble_eq_true rfl) dL_minute_304 (fun w13 r13 H locs hΦ a13 hP hD hS => ?_)
    obtain ⟨o13, rfl⟩ := hΦ
    replace a13 := a13.trans a11
    refine top_eq (y := (Tn σ.1 (JB σ.1 i) i)) ((qr_at okA (w := 3) h1i (by decide)).trans r3) ?_
    refine lv_iload X.1 X.2.1 dL_minute_307 (lv_at hl 1 rfl) ?_
    refine lv_icmp_ne (tgt := 416) X.1 X.2.1 dL_minute_309 (by decide) (fun c_309 => absurd (h15.symm) c_309) (fun c_309 => ?_)
    refine lv_aload_n X.1 X.2.1 dL_minute_312 rfl (lv_at hl 14 rfl) ?_
    refine lv_iconst (v := 3) X.1 X.2.1 dL_minute_313 (by decide) ?_
    refine lv_iload X.1 X.2.1 dL_minute_314 (lv_at hl 12 rfl) ?_
    refine lv_iconst (v := 5) X.1 X.2.1 dL_minute_316 (by decide) ?_
    refine lv_iconst (v := 0) X.1 X.2.1 dL_minute_317 (by decide) ?_
    refine kGL (rest := []) (As := [.ref ho, .int 3, .int (nI i), .int 5, .int 0]) X hP hD hS hl.1 o13.len (q_room l hst G kk (by omega) o13 (nI i) (5 : Int32) 0 ) sl_L_138 ⟨Nat.le_of_ble_eq_true rfl, Nat.le_of_ble_eq_true rfl, rfl, rfl⟩ ⟨by show _ ≤ 60; omega, by show _ ≤ 360; omega⟩ rfl (Nat.le_of_ble_eq_true rfl) dL_minute_318 (fun w14 r14 H locs hΦ a14 hP hD hS => ?_)
    obtain ⟨o14, rfl⟩ := hΦ
    replace a14 := a14.trans a13
    refine top_eq (y := (Fn σ.1 (JB σ.1 i) i)) ((qr_at okA (w := 5) h1i (by decide)).trans r5) ?_
    refine lv_iload X.1 X.2.1 dL_minute_321 (lv_at hl 0 rfl) ?_
    refine lv_bipush (v := 100) X.1 X.2.1 dL_minute_323 (by decide) ?_
    suffices J338 : W p l e (rmG 9 188 60 360) s m args below meth c H locs ((((((((((((((0 + 1) + 1) + 1) + 1) + 1) + 1) + 1) + 1) + 1) + 1) + 1) + 1) + 1) + 1) ((((((((((((((0 + 6) + 6) + 6) + 6) + 6) + 6) + 6) + 6) + 6) + 6) + 6) + 6) + 6) + 6) Q (F0 m 338 ls []) by
      refine lv_icmp_le (tgt := 333) X.1 X.2.1 dL_minute_325 (by decide) (fun c_325 => ?_) (fun c_325 => ?_)
      · skip
        refine lv_iload X.1 X.2.1 dL_minute_333 (lv_at hl 0 rfl) ?_
        refine lv_icmp_ne (tgt := 416) X.1 X.2.1 dL_minute_335 (by decide) (fun c_335 => absurd ((by rw [if_pos c_325] at h16; exact h16.symm)) c_335) (fun c_335 => ?_)
        exact J338
      · skip
        refine lv_bipush (v := 100) X.1 X.2.1 dL_minute_328 (by decide) ?_
        refine lv_goto (tgt := 335) X.1 X.2.1 dL_minute_330 (by decide) ?_
        refine lv_icmp_ne (tgt := 416) X.1 X.2.1 dL_minute_335 (by decide) (fun c_335 => absurd ((by rw [if_neg c_325] at h16; exact h16.symm)) c_335) (fun c_335 => ?_)
        exact J338
    refine lv_aload_n X.1 X.2.1 dL_minute_338 rfl (lv_at hl 14 rfl) ?_
    refine lv_iconst (v := 3) X.1 X.2.1 dL_minute_339 (by decide) ?_
    refine lv_iload X.1 X.2.1 dL_minute_340 (lv_at hl 12 rfl) ?_
    refine lv_bipush (v := 7) X.1 X.2.1 dL_minute_342 (by decide) ?_
    refine lv_iconst (v := 0) X.1 X.2.1 dL_minute_344 (by decide) ?_
    refine kGL (rest := []) (As := [.ref ho, .int 3, .int (nI i), .int 7, .int 0]) X hP hD hS hl.1 o14.len (q_room l hst G kk (by omega) o14 (nI i) (7 : Int32) 0 ) sl_L_138 ⟨Nat.le_of_ble_eq_true rfl, Nat.le_of_ble_eq_true rfl, rfl, rfl⟩ ⟨by show _ ≤ 60; omega, by show _ ≤ 360; omega⟩ rfl (Nat.le_of_ble_eq_true rfl) dL_minute_345 (fun w15 r15 H locs hΦ a15 hP hD hS => ?_)
    obtain ⟨o15, rfl⟩ := hΦ
    replace a15 := a15.trans a14
    refine top_eq (y := (σ.1 (16 + 8 * i + 7) + 0)) (((qr_at okA (w := 7) h1i (by decide)).trans r7).trans (by rw [hd1]; rfl)) ?_
    refine lv_iload X.1 X.2.1 dL_minute_348 (lv_at hl 8 rfl) ?_
    refine lv_iload X.1 X.2.1 dL_minute_350 (lv_at hl 3 rfl) ?_
    refine lv_if_eq (tgt := 359) X.1 X.2.1 dL_minute_352 (by decide) (fun c_352 => ?_) (fun c_352 => absurd (by decide) c_352)
    refine lv_iconst (v := 0) X.1 X.2.1 dL_minute_359 (by decide) ?_
    refine lv_iadd X.1 X.2.1 dL_minute_360 ?_
    refine lv_icmp_ne (tgt := 416) X.1 X.2.1 dL_minute_361 (by decide) (fun c_361 => absurd (rfl) c_361) (fun c_361 => ?_)
    refine lv_aload_n X.1 X.2.1 dL_minute_364 rfl (lv_at hl 14 rfl) ?_
    refine lv_iconst (v := 2) X.1 X.2.1 dL_minute_365 (by decide) ?_
    refine lv_bipush (v := 8) X.1 X.2.1 dL_minute_366 (by decide) ?_
    refine lv_iconst (v := 0) X.1 X.2.1 dL_minute_368 (by decide) ?_
    refine lv_iconst (v := 0) X.1 X.2.1 dL_minute_369 (by decide) ?_
    refine kGL (rest := []) (As := [.ref ho, .int 2, .int 8, .int 0, .int 0]) X hP hD hS hl.1 o15.len (q_about l hst G kk (by omega) o15 (8 : Int32) 0 0 ) sl_L_138 ⟨Nat.le_of_ble_eq_true rfl, Nat.le_of_ble_eq_true rfl, rfl, rfl⟩ ⟨by show _ ≤ 60; omega, by show _ ≤ 360; omega⟩ rfl (Nat.le_of_ble_eq_true rfl) dL_minute_370 (fun w16 r16 H locs hΦ a16 hP hD hS => ?_)
    obtain ⟨o16, rfl⟩ := hΦ
    replace a16 := a16.trans a15
    refine top_eq (y := (σ.1 7 + (RUNF σ.1 1 7 - σ.1 7))) ((qa_8 σ1.1).trans (by rw [f1]; exact add_back (σ.1 7) (RUNF σ.1 1 7))) ?_
    refine lv_iload X.1 X.2.1 dL_minute_373 (lv_at hl 5 rfl) ?_
    refine lv_icmp_ne (tgt := 416) X.1 X.2.1 dL_minute_375 (by decide) (fun c_375 => absurd (rfl) c_375) (fun c_375 => ?_)
    refine lv_iload X.1 X.2.1 dL_minute_378 (lv_at hl 1 rfl) ?_
    refine lv_aload_n X.1 X.2.1 dL_minute_380 rfl (lv_at hl 14 rfl) ?_
    refine lv_iconst (v := 3) X.1 X.2.1 dL_minute_381 (by decide) ?_
    refine lv_iload X.1 X.2.1 dL_minute_382 (lv_at hl 12 rfl) ?_
    refine lv_iconst (v := 2) X.1 X.2.1 dL_minute_384 (by decide) ?_
    refine lv_iconst (v := 0) X.1 X.2.1 dL_minute_385 (by decide) ?_
    refine kGL (rest := [.int v15]) (As := [.ref ho, .int 3, .int (nI i), .int 2, .int 0]) X hP hD hS hl.1 o16.len (q_room l hst G kk (by omega) o16 (nI i) (2 : Int32) 0 ) sl_L_138 ⟨Nat.le_of_ble_eq_true rfl, Nat.le_of_ble_eq_true rfl, rfl, rfl⟩ ⟨by show _ ≤ 60; omega, by show _ ≤ 360; omega⟩ rfl (Nat.le_of_ble_eq_true rfl) dL_minute_386 (fun w17 r17 H locs hΦ a17 hP hD hS => ?_)
    obtain ⟨o17, rfl⟩ := hΦ
    replace a17 := a17.trans a16
    refine top_eq (y := (σ1.1 (16 + 8 * i + 2))) (qr_at okA (w := 2) h1i (by decide)) ?_
    have hw := p10
    rw [nI_cl (by omega)] at hw
    unfold WP at hw
    rw [← f1, r3, ← h15] at hw
    suffices J417 : W p l e (rmG 9 188 60 360) s m args below meth c H locs (((((((((((((((((0 + 1) + 1) + 1) + 1) + 1) + 1) + 1) + 1) + 1) + 1) + 1) + 1) + 1) + 1) + 1) + 1) + 1) (((((((((((((((((0 + 6) + 6) + 6) + 6) + 6) + 6) + 6) + 6) + 6) + 6) + 6) + 6) + 6) + 6) + 6) + 6) + 6) Q (F0 m 417 ls [.int 1]) by
      refine lv_icmp_lt (tgt := 406) X.1 X.2.1 dL_minute_389 (by decide) (fun c_389 => ?_) (fun c_389 => ?_)
      · skip
        refine lv_iload X.1 X.2.1 dL_minute_406 (lv_at hl 4 rfl) ?_
        refine lv_iconst (v := 1) X.1 X.2.1 dL_minute_408 (by decide) ?_
        refine lv_icmp_eq (tgt := 416) X.1 X.2.1 dL_minute_409 (by decide) (fun c_409 => absurd c_409 (hw.2 c_389)) (fun c_409 => ?_)
        refine lv_iconst (v := 1) X.1 X.2.1 dL_minute_412 (by decide) ?_
        refine lv_goto (tgt := 417) X.1 X.2.1 dL_minute_413 (by decide) ?_
        exact J417
      · skip
        refine lv_iload X.1 X.2.1 dL_minute_392 (lv_at hl 4 rfl) ?_
        refine lv_if_eq (tgt := 412) X.1 X.2.1 dL_minute_394 (by decide) (fun c_394 => ?_) (fun c_394 => ?_)
        · skip
          refine lv_iconst (v := 1) X.1 X.2.1 dL_minute_412 (by decide) ?_
          refine lv_goto (tgt := 417) X.1 X.2.1 dL_minute_413 (by decide) ?_
          exact J417
        · skip
          refine lv_iload X.1 X.2.1 dL_minute_397 (lv_at hl 4 rfl) ?_
          refine lv_iconst (v := 1) X.1 X.2.1 dL_minute_399 (by decide) ?_
          refine lv_icmp_ne (tgt := 416) X.1 X.2.1 dL_minute_400 (by decide) (fun c_400 => absurd ((hw.1 c_389).resolve_left c_394) c_400) (fun c_400 => ?_)
          refine lv_goto (tgt := 412) X.1 X.2.1 dL_minute_403 (by decide) ?_
          refine lv_iconst (v := 1) X.1 X.2.1 dL_minute_412 (by decide) ?_
          refine lv_goto (tgt := 417) X.1 X.2.1 dL_minute_413 (by decide) ?_
          exact J417
    refine lv_istore (lv' := [(17, .int 1), (16, .int v16), (15, .int v15), (14, .int 1), (13, .int 0), (12, .int r10), (11, .int ((σ.1 7) + (RUNF σ.1 1 7 - σ.1 7))), (10, .int (RUNF σ.1 1 5 - σ.1 5)), (9, .int (σ.1 (16 + 8 * i + 4))), (8, .int (σ.1 (16 + 8 * i + 7))), (7, .int (σ.1 (16 + 8 * i + 5))), (6, .int (σ.1 (16 + 8 * i + 3))), (5, .int 0), (4, .int (nI i)), (3, .int (nI (mF σ.1))), (0, .ref ho), (1, .ref hq), (2, .int (nI N))]) X.1 X.2.1 dL_minute_417 hl (by decide) rfl (fun ls hl => ?_)
    refine lv_iload X.1 X.2.1 dL_minute_419 (lv_at hl 0 rfl) ?_
    refine lv_if_eq (tgt := 486) X.1 X.2.1 dL_minute_421 (by decide) (fun c_421 => absurd c_421 (by decide)) (fun c_421 => ?_)
    refine lv_aload_n X.1 X.2.1 dL_minute_424 rfl (lv_at hl 15 rfl) ?_
    refine lv_bipush (v := 10) X.1 X.2.1 dL_minute_425 (by decide) ?_
    refine lv_iconst (v := 0) X.1 X.2.1 dL_minute_427 (by decide) ?_
    refine lv_iconst (v := 0) X.1 X.2.1 dL_minute_428 (by decide) ?_
    refine lv_iconst (v := 0) X.1 X.2.1 dL_minute_429 (by decide) ?_
    refine kGL (rest := []) (As := [.ref ho, .int 10, .int 0, .int 0, .int 0]) X hP hD hS hl.1 o17.len (q_undo l hst G kk (by omega) o17  0 0 0 (hc1)) sl_L_138 ⟨Nat.le_of_ble_eq_true rfl, Nat.le_of_ble_eq_true rfl, rfl, rfl⟩ ⟨by show _ ≤ 60; omega, by show _ ≤ 360; omega⟩ rfl (Nat.le_of_ble_eq_true rfl) dL_minute_430 (fun w18 r18 H locs hΦ a18 hP hD hS => ?_)
    obtain ⟨o18, rfl⟩ := hΦ
    replace a18 := a18.trans a17
    refine k_goI (k_runS (rest := []) (As := [.int (nI (σ1.2.1 - 1))]) X.1 X.2.1 X.2.2.1 X.2.2.2.1 X.2.2.2.2.1 X.2.2.2.2.2.1 hP hD hS X.2.2.2.2.2.2.1 X.2.2.2.2.2.2.2.1 hl.1 (c_L_thrown l G kk (nI (σ1.2.1 - 1))) sl_L_190 ⟨Nat.le_of_ble_eq_true rfl, Nat.le_of_ble_eq_true rfl, rfl, rfl⟩ [] rfl rfl ⟨by show _ ≤ 60; omega, by show _ ≤ 360; omega⟩ rfl (Nat.le_of_ble_eq_true rfl) dL_minute_433) hP hD hS X.2.2.2.2.2.2.1 [] rfl rfl (fun H locs hP hD hS => ?_)
    replace hP : va_P G vwCl (w18 ++ w12) H := hP
    replace hD : va_D A (w18 ++ w12) := hD
    refine top_eq (y := 0) (thrown_n (by omega)) ?_
    refine lv_if_ne (tgt := 486) X.1 X.2.1 dL_minute_436 (by decide) (fun c_436 => absurd (by decide) c_436) (fun c_436 => ?_)
    refine lv_aload_n X.1 X.2.1 dL_minute_439 rfl (lv_at hl 16 rfl) ?_
    refine lv_bipush (v := 10) X.1 X.2.1 dL_minute_440 (by decide) ?_
    refine lv_iconst (v := 0) X.1 X.2.1 dL_minute_442 (by decide) ?_
    refine lv_iconst (v := 0) X.1 X.2.1 dL_minute_443 (by decide) ?_
    refine lv_iconst (v := 0) X.1 X.2.1 dL_minute_444 (by decide) ?_
    refine kGR (rest := []) (As := [.ref hq, .int 10, .int 0, .int 0, .int 0]) X hP hD hS hl.1 o12.len o18.len (q_undo l hst G kk (by omega) o12  0 0 0 (hc1)) sl_L_138 ⟨Nat.le_of_ble_eq_true rfl, Nat.le_of_ble_eq_true rfl, rfl, rfl⟩ ⟨by show _ ≤ 60; omega, by show _ ≤ 360; omega⟩ rfl (Nat.le_of_ble_eq_true rfl) dL_minute_445 (fun w19 r19 H locs hΦ a19 hP hD hS => ?_)
    obtain ⟨o19, rfl⟩ := hΦ
    replace a19 := a19.trans a12
    refine k_goI (k_runS (rest := []) (As := [.int (nI (σ1.2.1 - 1))]) X.1 X.2.1 X.2.2.1 X.2.2.2.1 X.2.2.2.2.1 X.2.2.2.2.2.1 hP hD hS X.2.2.2.2.2.2.1 X.2.2.2.2.2.2.2.1 hl.1 (c_L_thrown l G kk (nI (σ1.2.1 - 1))) sl_L_190 ⟨Nat.le_of_ble_eq_true rfl, Nat.le_of_ble_eq_true rfl, rfl, rfl⟩ [] rfl rfl ⟨by show _ ≤ 60; omega, by show _ ≤ 360; omega⟩ rfl (Nat.le_of_ble_eq_true rfl) dL_minute_448) hP hD hS X.2.2.2.2.2.2.1 [] rfl rfl (fun H locs hP hD hS => ?_)
    replace hP : va_P G vwCl (w18 ++ w19) H := hP
    replace hD : va_D A (w18 ++ w19) := hD
    refine top_eq (y := 0) (thrown_n (by omega)) ?_
    refine lv_if_ne (tgt := 486) X.1 X.2.1 dL_minute_451 (by decide) (fun c_451 => absurd (by decide) c_451) (fun c_451 => ?_)
    refine lv_aload_n X.1 X.2.1 dL_minute_454 rfl (lv_at hl 15 rfl) ?_
    refine lv_iconst (v := 3) X.1 X.2.1 dL_minute_455 (by decide) ?_
    refine lv_iload X.1 X.2.1 dL_minute_456 (lv_at hl 13 rfl) ?_
    refine lv_iconst (v := 3) X.1 X.2.1 dL_minute_458 (by decide) ?_
    refine lv_iconst (v := 0) X.1 X.2.1 dL_minute_459 (by decide) ?_
    refine kGL (rest := []) (As := [.ref ho, .int 3, .int (nI i), .int 3, .int 0]) X hP hD hS hl.1 o18.len (q_room l hst G kk (by omega) o18 (nI i) (3 : Int32) 0 ) sl_L_138 ⟨Nat.le_of_ble_eq_true rfl, Nat.le_of_ble_eq_true rfl, rfl, rfl⟩ ⟨by show _ ≤ 60; omega, by show _ ≤ 360; omega⟩ rfl (Nat.le_of_ble_eq_true rfl) dL_minute_460 (fun w20 r20 H locs hΦ a20 hP hD hS => ?_)
    obtain ⟨o20, rfl⟩ := hΦ
    replace a20 := a20.trans a18
    refine top_eq (y := (σ.1 (16 + 8 * i + 3))) ((by rw [f2]; exact qr_at ok (w := 3) hi (by decide))) ?_
    refine lv_iload X.1 X.2.1 dL_minute_463 (lv_at hl 11 rfl) ?_
    refine lv_icmp_ne (tgt := 486) X.1 X.2.1 dL_minute_465 (by decide) (fun c_465 => absurd (rfl) c_465) (fun c_465 => ?_)
    refine lv_aload_n X.1 X.2.1 dL_minute_468 rfl (lv_at hl 15 rfl) ?_
    refine lv_iconst (v := 4) X.1 X.2.1 dL_minute_469 (by decide) ?_
    refine lv_iload X.1 X.2.1 dL_minute_470 (lv_at hl 13 rfl) ?_
    refine lv_iconst (v := 0) X.1 X.2.1 dL_minute_472 (by decide) ?_
    refine lv_iconst (v := 0) X.1 X.2.1 dL_minute_473 (by decide) ?_
    refine kGL (rest := []) (As := [.ref ho, .int 4, .int (nI i), .int 0, .int 0]) X hP hD hS hl.1 o20.len (q_does l hst G kk (by omega) o20 (nI i) 0 0 ) sl_L_138 ⟨Nat.le_of_ble_eq_true rfl, Nat.le_of_ble_eq_true rfl, rfl, rfl⟩ ⟨by show _ ≤ 60; omega, by show _ ≤ 360; omega⟩ rfl (Nat.le_of_ble_eq_true rfl) dL_minute_474 (fun w21 r21 H locs hΦ a21 hP hD hS => ?_)
    obtain ⟨o21, rfl⟩ := hΦ
    replace a21 := a21.trans a20
    refine top_eq (y := 0) ((by rw [f2]; exact (qd_at ok hi).trans hd1)) ?_
    refine lv_iload X.1 X.2.1 dL_minute_477 (lv_at hl 12 rfl) ?_
    refine lv_icmp_ne (tgt := 486) X.1 X.2.1 dL_minute_479 (by decide) (fun c_479 => absurd (by decide) c_479) (fun c_479 => ?_)
    refine lv_iconst (v := 1) X.1 X.2.1 dL_minute_482 (by decide) ?_
    refine lv_goto (tgt := 487) X.1 X.2.1 dL_minute_483 (by decide) ?_
    refine W.widen (k := 60) (n := 360) (by omega) (by omega) ?_
    exact FIN _ 1 H locs ls 487 ⟨⟨_, _, rfl, o21, o19⟩, rfl⟩ (ads_app a21 a19) hP hD hS (fun _ => rfl) dL_minute_487
  · skip
    refine kGL (rest := []) (As := [.ref ho, .int 4, .int (nI i), .int 0, .int 0]) X hP hD hS hl.1 o1.len (q_does l hst G kk (by omega) o1 (nI i) 0 0 ) sl_L_138 ⟨Nat.le_of_ble_eq_true rfl, Nat.le_of_ble_eq_true rfl, rfl, rfl⟩ ⟨by show _ ≤ 60; omega, by show _ ≤ 360; omega⟩ rfl (Nat.le_of_ble_eq_true rfl) dL_minute_20 (fun w22 r22 H locs hΦ a22 hP hD hS => ?_)
    obtain ⟨o22, rfl⟩ := hΦ
    replace a22 := a22.trans a1
    refine top_eq (y := 1) ((qd_at ok hi).trans hd1) ?_
    refine lv_istore (lv' := [(5, .int 1), (4, .int (nI i)), (3, .int (nI (mF σ.1))), (0, .ref ho), (1, .ref hq), (2, .int (nI N))]) X.1 X.2.1 dL_minute_23 hl (by decide) rfl (fun ls hl => ?_)
    refine lv_aload_n X.1 X.2.1 dL_minute_25 rfl (lv_at hl 3 rfl) ?_
    refine lv_iconst (v := 3) X.1 X.2.1 dL_minute_26 (by decide) ?_
    refine lv_iload X.1 X.2.1 dL_minute_27 (lv_at hl 1 rfl) ?_
    refine lv_iconst (v := 3) X.1 X.2.1 dL_minute_29 (by decide) ?_
    refine lv_iconst (v := 0) X.1 X.2.1 dL_minute_30 (by decide) ?_
    refine kGL (rest := []) (As := [.ref ho, .int 3, .int (nI i), .int 3, .int 0]) X hP hD hS hl.1 o22.len (q_room l hst G kk (by omega) o22 (nI i) (3 : Int32) 0 ) sl_L_138 ⟨Nat.le_of_ble_eq_true rfl, Nat.le_of_ble_eq_true rfl, rfl, rfl⟩ ⟨by show _ ≤ 60; omega, by show _ ≤ 360; omega⟩ rfl (Nat.le_of_ble_eq_true rfl) dL_minute_31 (fun w23 r23 H locs hΦ a23 hP hD hS => ?_)
    obtain ⟨o23, rfl⟩ := hΦ
    replace a23 := a23.trans a22
    refine top_eq (y := (σ.1 (16 + 8 * i + 3))) (qr_at ok (w := 3) hi (by decide)) ?_
    refine lv_istore (lv' := [(6, .int (σ.1 (16 + 8 * i + 3))), (5, .int 1), (4, .int (nI i)), (3, .int (nI (mF σ.1))), (0, .ref ho), (1, .ref hq), (2, .int (nI N))]) X.1 X.2.1 dL_minute_34 hl (by decide) rfl (fun ls hl => ?_)
    refine lv_aload_n X.1 X.2.1 dL_minute_36 rfl (lv_at hl 4 rfl) ?_
    refine lv_iconst (v := 3) X.1 X.2.1 dL_minute_37 (by decide) ?_
    refine lv_iload X.1 X.2.1 dL_minute_38 (lv_at hl 2 rfl) ?_
    refine lv_iconst (v := 5) X.1 X.2.1 dL_minute_40 (by decide) ?_
    refine lv_iconst (v := 0) X.1 X.2.1 dL_minute_41 (by decide) ?_
    refine kGL (rest := []) (As := [.ref ho, .int 3, .int (nI i), .int 5, .int 0]) X hP hD hS hl.1 o23.len (q_room l hst G kk (by omega) o23 (nI i) (5 : Int32) 0 ) sl_L_138 ⟨Nat.le_of_ble_eq_true rfl, Nat.le_of_ble_eq_true rfl, rfl, rfl⟩ ⟨by show _ ≤ 60; omega, by show _ ≤ 360; omega⟩ rfl (Nat.le_of_ble_eq_true rfl) dL_minute_42 (fun w24 r24 H locs hΦ a24 hP hD hS => ?_)
    obtain ⟨o24, rfl⟩ := hΦ
    replace a24 := a24.trans a23
    refine top_eq (y := (σ.1 (16 + 8 * i + 5))) (qr_at ok (w := 5) hi (by decide)) ?_
    refine lv_istore (lv' := [(7, .int (σ.1 (16 + 8 * i + 5))), (6, .int (σ.1 (16 + 8 * i + 3))), (5, .int 1), (4, .int (nI i)), (3, .int (nI (mF σ.1))), (0, .ref ho), (1, .ref hq), (2, .int (nI N))]) X.1 X.2.1 dL_minute_45 hl (by decide) rfl (fun ls hl => ?_)
    refine lv_aload_n X.1 X.2.1 dL_minute_47 rfl (lv_at hl 5 rfl) ?_
    refine lv_iconst (v := 3) X.1 X.2.1 dL_minute_48 (by decide) ?_
    refine lv_iload X.1 X.2.1 dL_minute_49 (lv_at hl 3 rfl) ?_
    refine lv_bipush (v := 7) X.1 X.2.1 dL_minute_51 (by decide) ?_
    refine lv_iconst (v := 0) X.1 X.2.1 dL_minute_53 (by decide) ?_
    refine kGL (rest := []) (As := [.ref ho, .int 3, .int (nI i), .int 7, .int 0]) X hP hD hS hl.1 o24.len (q_room l hst G kk (by omega) o24 (nI i) (7 : Int32) 0 ) sl_L_138 ⟨Nat.le_of_ble_eq_true rfl, Nat.le_of_ble_eq_true rfl, rfl, rfl⟩ ⟨by show _ ≤ 60; omega, by show _ ≤ 360; omega⟩ rfl (Nat.le_of_ble_eq_true rfl) dL_minute_54 (fun w25 r25 H locs hΦ a25 hP hD hS => ?_)
    obtain ⟨o25, rfl⟩ := hΦ
    replace a25 := a25.trans a24
    refine top_eq (y := (σ.1 (16 + 8 * i + 7))) (qr_at ok (w := 7) hi (by decide)) ?_
    refine lv_istore (lv' := [(8, .int (σ.1 (16 + 8 * i + 7))), (7, .int (σ.1 (16 + 8 * i + 5))), (6, .int (σ.1 (16 + 8 * i + 3))), (5, .int 1), (4, .int (nI i)), (3, .int (nI (mF σ.1))), (0, .ref ho), (1, .ref hq), (2, .int (nI N))]) X.1 X.2.1 dL_minute_57 hl (by decide) rfl (fun ls hl => ?_)
    refine lv_aload_n X.1 X.2.1 dL_minute_59 rfl (lv_at hl 6 rfl) ?_
    refine lv_iconst (v := 3) X.1 X.2.1 dL_minute_60 (by decide) ?_
    refine lv_iload X.1 X.2.1 dL_minute_61 (lv_at hl 4 rfl) ?_
    refine lv_iconst (v := 4) X.1 X.2.1 dL_minute_63 (by decide) ?_
    refine lv_iconst (v := 0) X.1 X.2.1 dL_minute_64 (by decide) ?_
    refine kGL (rest := []) (As := [.ref ho, .int 3, .int (nI i), .int 4, .int 0]) X hP hD hS hl.1 o25.len (q_room l hst G kk (by omega) o25 (nI i) (4 : Int32) 0 ) sl_L_138 ⟨Nat.le_of_ble_eq_true rfl, Nat.le_of_ble_eq_true rfl, rfl, rfl⟩ ⟨by show _ ≤ 60; omega, by show _ ≤ 360; omega⟩ rfl (Nat.le_of_ble_eq_true rfl) dL_minute_65 (fun w26 r26 H locs hΦ a26 hP hD hS => ?_)
    obtain ⟨o26, rfl⟩ := hΦ
    replace a26 := a26.trans a25
    refine top_eq (y := (σ.1 (16 + 8 * i + 4))) (qr_at ok (w := 4) hi (by decide)) ?_
    refine lv_istore (lv' := [(9, .int (σ.1 (16 + 8 * i + 4))), (8, .int (σ.1 (16 + 8 * i + 7))), (7, .int (σ.1 (16 + 8 * i + 5))), (6, .int (σ.1 (16 + 8 * i + 3))), (5, .int 1), (4, .int (nI i)), (3, .int (nI (mF σ.1))), (0, .ref ho), (1, .ref hq), (2, .int (nI N))]) X.1 X.2.1 dL_minute_68 hl (by decide) rfl (fun ls hl => ?_)
    refine lv_aload_n X.1 X.2.1 dL_minute_70 rfl (lv_at hl 7 rfl) ?_
    refine lv_bipush (v := 12) X.1 X.2.1 dL_minute_71 (by decide) ?_
    refine lv_iconst (v := 1) X.1 X.2.1 dL_minute_73 (by decide) ?_
    refine lv_iconst (v := 0) X.1 X.2.1 dL_minute_74 (by decide) ?_
    refine lv_iconst (v := 0) X.1 X.2.1 dL_minute_75 (by decide) ?_
    refine kGL (rest := []) (As := [.ref ho, .int 12, .int 1, .int 0, .int 0]) X hP hD hS hl.1 o26.len (q_coming l hst G kk (by omega) o26 (1 : Int32) (0 : Int32) 0 (rfl) (Or.inl rfl)) sl_L_138 ⟨Nat.le_of_ble_eq_true rfl, Nat.le_of_ble_eq_true rfl, rfl, rfl⟩ ⟨by show _ ≤ 60; omega, by show _ ≤ 360; omega⟩ rfl (Nat.le_of_ble_eq_true rfl) dL_minute_76 (fun w27 r27 H locs hΦ a27 hP hD hS => ?_)
    obtain ⟨o27, rfl⟩ := hΦ
    replace a27 := a27.trans a26
    refine top_eq (y := (RUNF σ.1 1 5 - σ.1 5)) (if_pos rfl) ?_
    refine lv_istore (lv' := [(10, .int (RUNF σ.1 1 5 - σ.1 5)), (9, .int (σ.1 (16 + 8 * i + 4))), (8, .int (σ.1 (16 + 8 * i + 7))), (7, .int (σ.1 (16 + 8 * i + 5))), (6, .int (σ.1 (16 + 8 * i + 3))), (5, .int 1), (4, .int (nI i)), (3, .int (nI (mF σ.1))), (0, .ref ho), (1, .ref hq), (2, .int (nI N))]) X.1 X.2.1 dL_minute_79 hl (by decide) rfl (fun ls hl => ?_)
    refine lv_aload_n X.1 X.2.1 dL_minute_81 rfl (lv_at hl 8 rfl) ?_
    refine lv_iconst (v := 2) X.1 X.2.1 dL_minute_82 (by decide) ?_
    refine lv_bipush (v := 8) X.1 X.2.1 dL_minute_83 (by decide) ?_
    refine lv_iconst (v := 0) X.1 X.2.1 dL_minute_85 (by decide) ?_
    refine lv_iconst (v := 0) X.1 X.2.1 dL_minute_86 (by decide) ?_
    refine kGL (rest := []) (As := [.ref ho, .int 2, .int 8, .int 0, .int 0]) X hP hD hS hl.1 o27.len (q_about l hst G kk (by omega) o27 (8 : Int32) 0 0 ) sl_L_138 ⟨Nat.le_of_ble_eq_true rfl, Nat.le_of_ble_eq_true rfl, rfl, rfl⟩ ⟨by show _ ≤ 60; omega, by show _ ≤ 360; omega⟩ rfl (Nat.le_of_ble_eq_true rfl) dL_minute_87 (fun w28 r28 H locs hΦ a28 hP hD hS => ?_)
    obtain ⟨o28, rfl⟩ := hΦ
    replace a28 := a28.trans a27
    refine top_eq (y := (σ.1 7)) (qa_8 σ.1) ?_
    refine lv_aload_n X.1 X.2.1 dL_minute_90 rfl (lv_at hl 8 rfl) ?_
    refine lv_bipush (v := 12) X.1 X.2.1 dL_minute_91 (by decide) ?_
    refine lv_iconst (v := 1) X.1 X.2.1 dL_minute_93 (by decide) ?_
    refine lv_iconst (v := 3) X.1 X.2.1 dL_minute_94 (by decide) ?_
    refine lv_iconst (v := 0) X.1 X.2.1 dL_minute_95 (by decide) ?_
    refine kGL (rest := [.int (σ.1 7)]) (As := [.ref ho, .int 12, .int 1, .int 3, .int 0]) X hP hD hS hl.1 o28.len (q_coming l hst G kk (by omega) o28 (1 : Int32) (3 : Int32) 0 (rfl) (Or.inr rfl)) sl_L_138 ⟨Nat.le_of_ble_eq_true rfl, Nat.le_of_ble_eq_true rfl, rfl, rfl⟩ ⟨by show _ ≤ 60; omega, by show _ ≤ 360; omega⟩ rfl (Nat.le_of_ble_eq_true rfl) dL_minute_96 (fun w29 r29 H locs hΦ a29 hP hD hS => ?_)
    obtain ⟨o29, rfl⟩ := hΦ
    replace a29 := a29.trans a28
    refine top_eq (y := (RUNF σ.1 1 7 - σ.1 7)) (if_neg (by decide)) ?_
    refine lv_iadd X.1 X.2.1 dL_minute_99 ?_
    refine lv_istore (lv' := [(11, .int ((σ.1 7) + (RUNF σ.1 1 7 - σ.1 7))), (10, .int (RUNF σ.1 1 5 - σ.1 5)), (9, .int (σ.1 (16 + 8 * i + 4))), (8, .int (σ.1 (16 + 8 * i + 7))), (7, .int (σ.1 (16 + 8 * i + 5))), (6, .int (σ.1 (16 + 8 * i + 3))), (5, .int 1), (4, .int (nI i)), (3, .int (nI (mF σ.1))), (0, .ref ho), (1, .ref hq), (2, .int (nI N))]) X.1 X.2.1 dL_minute_100 hl (by decide) rfl (fun ls hl => ?_)
    refine lv_aload_n X.1 X.2.1 dL_minute_102 rfl (lv_at hl 9 rfl) ?_
    refine lv_bipush (v := 11) X.1 X.2.1 dL_minute_103 (by decide) ?_
    refine lv_iload X.1 X.2.1 dL_minute_105 (lv_at hl 7 rfl) ?_
    refine lv_iconst (v := 0) X.1 X.2.1 dL_minute_107 (by decide) ?_
    refine lv_iconst (v := 0) X.1 X.2.1 dL_minute_108 (by decide) ?_
    refine kGL (rest := []) (As := [.ref ho, .int 11, .int (nI i), .int 0, .int 0]) X hP hD hS hl.1 o29.len (q_warm l hst G kk (by omega) o29 (nI i) 0 0 (ir_yes ok hi)) sl_L_138 ⟨Nat.le_of_ble_eq_true rfl, Nat.le_of_ble_eq_true rfl, rfl, rfl⟩ ⟨by show _ ≤ 60; omega, by show _ ≤ 360; omega⟩ rfl (Nat.le_of_ble_eq_true rfl) dL_minute_109 (fun w30 r30 H locs hΦ a30 hP hD hS => ?_)
    obtain ⟨o30, p30⟩ := hΦ
    replace a30 := a30.trans a29
    refine lv_istore (lv' := [(12, .int r30), (11, .int ((σ.1 7) + (RUNF σ.1 1 7 - σ.1 7))), (10, .int (RUNF σ.1 1 5 - σ.1 5)), (9, .int (σ.1 (16 + 8 * i + 4))), (8, .int (σ.1 (16 + 8 * i + 7))), (7, .int (σ.1 (16 + 8 * i + 5))), (6, .int (σ.1 (16 + 8 * i + 3))), (5, .int 1), (4, .int (nI i)), (3, .int (nI (mF σ.1))), (0, .ref ho), (1, .ref hq), (2, .int (nI N))]) X.1 X.2.1 dL_minute_112 hl (by decide) rfl (fun ls hl => ?_)
    refine lv_iload X.1 X.2.1 dL_minute_114 (lv_at hl 7 rfl) ?_
    refine lv_iconst (v := 1) X.1 X.2.1 dL_minute_116 (by decide) ?_
    refine lv_icmp_eq (tgt := 126) X.1 X.2.1 dL_minute_117 (by decide) (fun c_117 => ?_) (fun c_117 => absurd (by decide) c_117)
    refine lv_iconst (v := 1) X.1 X.2.1 dL_minute_126 (by decide) ?_
    refine lv_goto (tgt := 131) X.1 X.2.1 dL_minute_127 (by decide) ?_
    refine lv_istore (lv' := [(13, .int 1), (12, .int r30), (11, .int ((σ.1 7) + (RUNF σ.1 1 7 - σ.1 7))), (10, .int (RUNF σ.1 1 5 - σ.1 5)), (9, .int (σ.1 (16 + 8 * i + 4))), (8, .int (σ.1 (16 + 8 * i + 7))), (7, .int (σ.1 (16 + 8 * i + 5))), (6, .int (σ.1 (16 + 8 * i + 3))), (5, .int 1), (4, .int (nI i)), (3, .int (nI (mF σ.1))), (0, .ref ho), (1, .ref hq), (2, .int (nI N))]) X.1 X.2.1 dL_minute_131 hl (by decide) rfl (fun ls hl => ?_)
    refine lv_iload X.1 X.2.1 dL_minute_133 (lv_at hl 8 rfl) ?_
    refine lv_if_eq (tgt := 150) X.1 X.2.1 dL_minute_135 (by decide) (fun c_135 => absurd c_135 (by decide)) (fun c_135 => ?_)
    refine lv_iload X.1 X.2.1 dL_minute_138 (lv_at hl 8 rfl) ?_
    refine lv_iconst (v := 2) X.1 X.2.1 dL_minute_140 (by decide) ?_
    refine lv_icmp_eq (tgt := 150) X.1 X.2.1 dL_minute_141 (by decide) (fun c_141 => absurd c_141 (by decide)) (fun c_141 => ?_)
    refine lv_iload X.1 X.2.1 dL_minute_144 (lv_at hl 8 rfl) ?_
    refine lv_iconst (v := 5) X.1 X.2.1 dL_minute_146 (by decide) ?_
    refine lv_icmp_ne (tgt := 154) X.1 X.2.1 dL_minute_147 (by decide) (fun c_147 => ?_) (fun c_147 => absurd c_147 (by decide))
    refine lv_iconst (v := 0) X.1 X.2.1 dL_minute_154 (by decide) ?_
    refine lv_istore (lv' := [(14, .int 0), (13, .int 1), (12, .int r30), (11, .int ((σ.1 7) + (RUNF σ.1 1 7 - σ.1 7))), (10, .int (RUNF σ.1 1 5 - σ.1 5)), (9, .int (σ.1 (16 + 8 * i + 4))), (8, .int (σ.1 (16 + 8 * i + 7))), (7, .int (σ.1 (16 + 8 * i + 5))), (6, .int (σ.1 (16 + 8 * i + 3))), (5, .int 1), (4, .int (nI i)), (3, .int (nI (mF σ.1))), (0, .ref ho), (1, .ref hq), (2, .int (nI N))]) X.1 X.2.1 dL_minute_155 hl (by decide) rfl (fun ls hl => ?_)
    refine lv_iload X.1 X.2.1 dL_minute_157 (lv_at hl 8 rfl) ?_
    refine lv_iload X.1 X.2.1 dL_minute_159 (lv_at hl 1 rfl) ?_
    refine lv_if_eq (tgt := 175) X.1 X.2.1 dL_minute_161 (by decide) (fun c_161 => absurd c_161 (by decide)) (fun c_161 => ?_)
    refine lv_iload X.1 X.2.1 dL_minute_164 (lv_at hl 7 rfl) ?_
    refine lv_bipush (v := 20) X.1 X.2.1 dL_minute_166 (by decide) ?_
    refine lv_idiv X.1 X.2.1 dL_minute_168 (by decide) ?_
    refine lv_bipush (v := 8) X.1 X.2.1 dL_minute_169 (by decide) ?_
    refine lv_isub X.1 X.2.1 dL_minute_171 ?_
    refine lv_goto (tgt := 186) X.1 X.2.1 dL_minute_172 (by decide) ?_
    refine lv_iadd X.1 X.2.1 dL_minute_186 ?_
    refine lv_iconst (v := 4) X.1 X.2.1 dL_minute_187 (by decide) ?_
    refine lv_iload X.1 X.2.1 dL_minute_188 (lv_at hl 5 rfl) ?_
    refine lv_imul X.1 X.2.1 dL_minute_190 ?_
    refine lv_iadd X.1 X.2.1 dL_minute_191 ?_
    refine lv_istore (lv' := [(15, .int (((σ.1 (16 + 8 * i + 3)) + (((σ.1 (16 + 8 * i + 5)) / 20) - 8)) + (4 * (σ.1 (16 + 8 * i + 4))))), (14, .int 0), (13, .int 1), (12, .int r30), (11, .int ((σ.1 7) + (RUNF σ.1 1 7 - σ.1 7))), (10, .int (RUNF σ.1 1 5 - σ.1 5)), (9, .int (σ.1 (16 + 8 * i + 4))), (8, .int (σ.1 (16 + 8 * i + 7))), (7, .int (σ.1 (16 + 8 * i + 5))), (6, .int (σ.1 (16 + 8 * i + 3))), (5, .int 1), (4, .int (nI i)), (3, .int (nI (mF σ.1))), (0, .ref ho), (1, .ref hq), (2, .int (nI N))]) X.1 X.2.1 dL_minute_192 hl (by decide) rfl (fun ls hl => ?_)
    refine lv_iload X.1 X.2.1 dL_minute_194 (lv_at hl 0 rfl) ?_
    refine lv_sipush (v := 400) X.1 X.2.1 dL_minute_196 (by decide) ?_
    have eT : sX8_clamp ((((σ.1 (16 + 8 * i + 3)) + (((σ.1 (16 + 8 * i + 5)) / 20) - 8)) + (4 * (σ.1 (16 + 8 * i + 4))))) (-400) 400 = Tn σ.1 (JB σ.1 i) i := by rw [hd1]; exact tn_val (x := 1) hz
    suffices J15 : ∀ v15 : Int32, v15 = Tn σ.1 (JB σ.1 i) i → W p l e (rmG 9 188 60 360) s m args below meth c H locs ((((((((((0 + 1) + 1) + 1) + 1) + 1) + 1) + 1) + 1) + 1) + 1) ((((((((((0 + 6) + 6) + 6) + 6) + 6) + 6) + 6) + 6) + 6) + 6) Q (F0 m 224 ls [.int v15]) by
      refine lv_icmp_le (tgt := 208) X.1 X.2.1 dL_minute_199 (by decide) (fun c_199 => ?_) (fun c_199 => ?_)
      · skip
        refine lv_iload X.1 X.2.1 dL_minute_208 (lv_at hl 0 rfl) ?_
        refine lv_sipush (v := (-400)) X.1 X.2.1 dL_minute_210 (by decide) ?_
        refine lv_icmp_ge (tgt := 222) X.1 X.2.1 dL_minute_213 (by decide) (fun c_213 => ?_) (fun c_213 => ?_)
        · skip
          refine lv_iload X.1 X.2.1 dL_minute_222 (lv_at hl 0 rfl) ?_
          exact J15 _ ((cl_mid c_199 c_213).trans eT)
        · skip
          refine lv_sipush (v := (-400)) X.1 X.2.1 dL_minute_216 (by decide) ?_
          refine lv_goto (tgt := 224) X.1 X.2.1 dL_minute_219 (by decide) ?_
          exact J15 _ ((cl_lo c_213).trans eT)
      · skip
        refine lv_sipush (v := 400) X.1 X.2.1 dL_minute_202 (by decide) ?_
        refine lv_goto (tgt := 224) X.1 X.2.1 dL_minute_205 (by decide) ?_
        exact J15 _ ((cl_hi c_199).trans eT)
    intro v15 h15
    refine lv_istore (lv' := [(15, .int v15), (14, .int 0), (13, .int 1), (12, .int r30), (11, .int ((σ.1 7) + (RUNF σ.1 1 7 - σ.1 7))), (10, .int (RUNF σ.1 1 5 - σ.1 5)), (9, .int (σ.1 (16 + 8 * i + 4))), (8, .int (σ.1 (16 + 8 * i + 7))), (7, .int (σ.1 (16 + 8 * i + 5))), (6, .int (σ.1 (16 + 8 * i + 3))), (5, .int 1), (4, .int (nI i)), (3, .int (nI (mF σ.1))), (0, .ref ho), (1, .ref hq), (2, .int (nI N))]) X.1 X.2.1 dL_minute_224 hl (by decide) rfl (fun ls hl => ?_)
    refine lv_iload X.1 X.2.1 dL_minute_226 (lv_at hl 1 rfl) ?_
    refine lv_if_eq (tgt := 250) X.1 X.2.1 dL_minute_228 (by decide) (fun c_228 => ?_) (fun c_228 => absurd (by decide) c_228)
    refine lv_iload X.1 X.2.1 dL_minute_250 (lv_at hl 8 rfl) ?_
    refine lv_iload X.1 X.2.1 dL_minute_252 (lv_at hl 2 rfl) ?_
    refine lv_if_eq (tgt := 261) X.1 X.2.1 dL_minute_254 (by decide) (fun c_254 => absurd c_254 (by decide)) (fun c_254 => ?_)
    refine lv_iconst (v := 1) X.1 X.2.1 dL_minute_257 (by decide) ?_
    refine lv_goto (tgt := 262) X.1 X.2.1 dL_minute_258 (by decide) ?_
    refine lv_iadd X.1 X.2.1 dL_minute_262 ?_
    refine lv_iconst (v := 2) X.1 X.2.1 dL_minute_263 (by decide) ?_
    refine lv_iload X.1 X.2.1 dL_minute_264 (lv_at hl 6 rfl) ?_
    refine lv_imul X.1 X.2.1 dL_minute_266 ?_
    refine lv_iadd X.1 X.2.1 dL_minute_267 ?_
    obtain ⟨v16, h16e⟩ : ∃ v16, v16 = (((σ.1 (16 + 8 * i + 5)) + 1) + (2 * (σ.1 (16 + 8 * i + 4)))) := ⟨_, rfl⟩
    have h16 : (if v16 ≤ 100 then v16 else 100) = Fn σ.1 (JB σ.1 i) i := by rw [h16e, hd1]; exact fn_un hz hf0 hf1 (by decide) (by decide)
    refine top_eq (y := v16) (h16e.symm) ?_
    refine lv_istore (lv' := [(16, .int v16), (15, .int v15), (14, .int 0), (13, .int 1), (12, .int r30), (11, .int ((σ.1 7) + (RUNF σ.1 1 7 - σ.1 7))), (10, .int (RUNF σ.1 1 5 - σ.1 5)), (9, .int (σ.1 (16 + 8 * i + 4))), (8, .int (σ.1 (16 + 8 * i + 7))), (7, .int (σ.1 (16 + 8 * i + 5))), (6, .int (σ.1 (16 + 8 * i + 3))), (5, .int 1), (4, .int (nI i)), (3, .int (nI (mF σ.1))), (0, .ref ho), (1, .ref hq), (2, .int (nI N))]) X.1 X.2.1 dL_minute_268 hl (by decide) rfl (fun ls hl => ?_)
    refine lv_aload_n X.1 X.2.1 dL_minute_270 rfl (lv_at hl 14 rfl) ?_
    refine lv_bipush (v := 8) X.1 X.2.1 dL_minute_271 (by decide) ?_
    refine lv_iconst (v := 1) X.1 X.2.1 dL_minute_273 (by decide) ?_
    refine lv_iconst (v := 0) X.1 X.2.1 dL_minute_274 (by decide) ?_
    refine lv_iconst (v := 0) X.1 X.2.1 dL_minute_275 (by decide) ?_
    refine kGL (rest := []) (As := [.ref ho, .int 8, .int 1, .int 0, .int 0]) X hP hD hS hl.1 o30.len (q_run l hst G kk (by omega) o30 (1 : Int32) 0 0 (by decide)) sl_L_138 ⟨Nat.le_of_ble_eq_true rfl, Nat.le_of_ble_eq_true rfl, rfl, rfl⟩ ⟨by show _ ≤ 60; omega, by show _ ≤ 360; omega⟩ rfl (Nat.le_of_ble_eq_true rfl) dL_minute_276 (fun w31 r31 H locs hΦ a31 hP hD hS => ?_)
    obtain ⟨o31, rfl⟩ := hΦ
    replace a31 := a31.trans a30
    replace o31 : OB kk (B + 60) σ1 ho w31 := by rw [hσ]; exact o31
    have okA := o31.row.1
    have h1i : i < mF σ1.1 := by rw [m1]; exact hi
    refine top_eq (y := (RUNF σ.1 1 5 - σ.1 5)) (by rw [show (1 : Int32).toNatClampNeg = 1 from rfl]) ?_
    refine lv_iload X.1 X.2.1 dL_minute_279 (lv_at hl 6 rfl) ?_
    refine lv_icmp_ne (tgt := 416) X.1 X.2.1 dL_minute_281 (by decide) (fun c_281 => absurd (rfl) c_281) (fun c_281 => ?_)
    refine lv_aload_n X.1 X.2.1 dL_minute_284 rfl (lv_at hl 15 rfl) ?_
    refine lv_bipush (v := 8) X.1 X.2.1 dL_minute_285 (by decide) ?_
    refine lv_iconst (v := 1) X.1 X.2.1 dL_minute_287 (by decide) ?_
    refine lv_iconst (v := 0) X.1 X.2.1 dL_minute_288 (by decide) ?_
    refine lv_iconst (v := 0) X.1 X.2.1 dL_minute_289 (by decide) ?_
    refine kGR (rest := []) (As := [.ref hq, .int 8, .int 1, .int 0, .int 0]) X hP hD hS hl.1 ob.len o31.len (q_run l hst G kk (by omega) ob (1 : Int32) 0 0 (by decide)) sl_L_138 ⟨Nat.le_of_ble_eq_true rfl, Nat.le_of_ble_eq_true rfl, rfl, rfl⟩ ⟨by show _ ≤ 60; omega, by show _ ≤ 360; omega⟩ rfl (Nat.le_of_ble_eq_true rfl) dL_minute_290 (fun w32 r32 H locs hΦ a32 hP hD hS => ?_)
    obtain ⟨o32, rfl⟩ := hΦ
    replace a32 := a32.trans b0
    replace o32 : OB kk (B + 60) σ1 hq w32 := by rw [hσ]; exact o32
    refine top_eq (y := (RUNF σ.1 1 5 - σ.1 5)) (by rw [show (1 : Int32).toNatClampNeg = 1 from rfl]) ?_
    refine lv_iload X.1 X.2.1 dL_minute_293 (lv_at hl 6 rfl) ?_
    refine lv_icmp_ne (tgt := 416) X.1 X.2.1 dL_minute_295 (by decide) (fun c_295 => absurd (rfl) c_295) (fun c_295 => ?_)
    refine lv_aload_n X.1 X.2.1 dL_minute_298 rfl (lv_at hl 14 rfl) ?_
    refine lv_iconst (v := 3) X.1 X.2.1 dL_minute_299 (by decide) ?_
    refine lv_iload X.1 X.2.1 dL_minute_300 (lv_at hl 12 rfl) ?_
    refine lv_iconst (v := 3) X.1 X.2.1 dL_minute_302 (by decide) ?_
    refine lv_iconst (v := 0) X.1 X.2.1 dL_minute_303 (by decide) ?_
    refine kGL (rest := []) (As := [.ref ho, .int 3, .int (nI i), .int 3, .int 0]) X hP hD hS hl.1 o31.len (q_room l hst G kk (by omega) o31 (nI i) (3 : Int32) 0 ) sl_L_138 ⟨Nat.le_of_ble_eq_true rfl, Nat.le_of_ble_eq_true rfl, rfl, rfl⟩ ⟨by show _ ≤ 60; omega, by show _ ≤ 360; omega⟩ rfl (Nat.le_of_ble_eq_true rfl) dL_minute_304 (fun w33 r33 H locs hΦ a33 hP hD hS => ?_)
    obtain ⟨o33, rfl⟩ := hΦ
    replace a33 := a33.trans a31
    refine top_eq (y := (Tn σ.1 (JB σ.1 i) i)) ((qr_at okA (w := 3) h1i (by decide)).trans r3) ?_
    refine lv_iload X.1 X.2.1 dL_minute_307 (lv_at hl 1 rfl) ?_
    refine lv_icmp_ne (tgt := 416) X.1 X.2.1 dL_minute_309 (by decide) (fun c_309 => absurd (h15.symm) c_309) (fun c_309 => ?_)
    refine lv_aload_n X.1 X.2.1 dL_minute_312 rfl (lv_at hl 14 rfl) ?_
    refine lv_iconst (v := 3) X.1 X.2.1 dL_minute_313 (by decide) ?_
    refine lv_iload X.1 X.2.1 dL_minute_314 (lv_at hl 12 rfl) ?_
    refine lv_iconst (v := 5) X.1 X.2.1 dL_minute_316 (by decide) ?_
    refine lv_iconst (v := 0) X.1 X.2.1 dL_minute_317 (by decide) ?_
    refine kGL (rest := []) (As := [.ref ho, .int 3, .int (nI i), .int 5, .int 0]) X hP hD hS hl.1 o33.len (q_room l hst G kk (by omega) o33 (nI i) (5 : Int32) 0 ) sl_L_138 ⟨Nat.le_of_ble_eq_true rfl, Nat.le_of_ble_eq_true rfl, rfl, rfl⟩ ⟨by show _ ≤ 60; omega, by show _ ≤ 360; omega⟩ rfl (Nat.le_of_ble_eq_true rfl) dL_minute_318 (fun w34 r34 H locs hΦ a34 hP hD hS => ?_)
    obtain ⟨o34, rfl⟩ := hΦ
    replace a34 := a34.trans a33
    refine top_eq (y := (Fn σ.1 (JB σ.1 i) i)) ((qr_at okA (w := 5) h1i (by decide)).trans r5) ?_
    refine lv_iload X.1 X.2.1 dL_minute_321 (lv_at hl 0 rfl) ?_
    refine lv_bipush (v := 100) X.1 X.2.1 dL_minute_323 (by decide) ?_
    suffices J338 : W p l e (rmG 9 188 60 360) s m args below meth c H locs ((((((((((((((0 + 1) + 1) + 1) + 1) + 1) + 1) + 1) + 1) + 1) + 1) + 1) + 1) + 1) + 1) ((((((((((((((0 + 6) + 6) + 6) + 6) + 6) + 6) + 6) + 6) + 6) + 6) + 6) + 6) + 6) + 6) Q (F0 m 338 ls []) by
      refine lv_icmp_le (tgt := 333) X.1 X.2.1 dL_minute_325 (by decide) (fun c_325 => ?_) (fun c_325 => ?_)
      · skip
        refine lv_iload X.1 X.2.1 dL_minute_333 (lv_at hl 0 rfl) ?_
        refine lv_icmp_ne (tgt := 416) X.1 X.2.1 dL_minute_335 (by decide) (fun c_335 => absurd ((by rw [if_pos c_325] at h16; exact h16.symm)) c_335) (fun c_335 => ?_)
        exact J338
      · skip
        refine lv_bipush (v := 100) X.1 X.2.1 dL_minute_328 (by decide) ?_
        refine lv_goto (tgt := 335) X.1 X.2.1 dL_minute_330 (by decide) ?_
        refine lv_icmp_ne (tgt := 416) X.1 X.2.1 dL_minute_335 (by decide) (fun c_335 => absurd ((by rw [if_neg c_325] at h16; exact h16.symm)) c_335) (fun c_335 => ?_)
        exact J338
    refine lv_aload_n X.1 X.2.1 dL_minute_338 rfl (lv_at hl 14 rfl) ?_
    refine lv_iconst (v := 3) X.1 X.2.1 dL_minute_339 (by decide) ?_
    refine lv_iload X.1 X.2.1 dL_minute_340 (lv_at hl 12 rfl) ?_
    refine lv_bipush (v := 7) X.1 X.2.1 dL_minute_342 (by decide) ?_
    refine lv_iconst (v := 0) X.1 X.2.1 dL_minute_344 (by decide) ?_
    refine kGL (rest := []) (As := [.ref ho, .int 3, .int (nI i), .int 7, .int 0]) X hP hD hS hl.1 o34.len (q_room l hst G kk (by omega) o34 (nI i) (7 : Int32) 0 ) sl_L_138 ⟨Nat.le_of_ble_eq_true rfl, Nat.le_of_ble_eq_true rfl, rfl, rfl⟩ ⟨by show _ ≤ 60; omega, by show _ ≤ 360; omega⟩ rfl (Nat.le_of_ble_eq_true rfl) dL_minute_345 (fun w35 r35 H locs hΦ a35 hP hD hS => ?_)
    obtain ⟨o35, rfl⟩ := hΦ
    replace a35 := a35.trans a34
    refine top_eq (y := (σ.1 (16 + 8 * i + 7) + 1)) (((qr_at okA (w := 7) h1i (by decide)).trans r7).trans (by rw [hd1]; rfl)) ?_
    refine lv_iload X.1 X.2.1 dL_minute_348 (lv_at hl 8 rfl) ?_
    refine lv_iload X.1 X.2.1 dL_minute_350 (lv_at hl 3 rfl) ?_
    refine lv_if_eq (tgt := 359) X.1 X.2.1 dL_minute_352 (by decide) (fun c_352 => absurd c_352 (by decide)) (fun c_352 => ?_)
    refine lv_iconst (v := 1) X.1 X.2.1 dL_minute_355 (by decide) ?_
    refine lv_goto (tgt := 360) X.1 X.2.1 dL_minute_356 (by decide) ?_
    refine lv_iadd X.1 X.2.1 dL_minute_360 ?_
    refine lv_icmp_ne (tgt := 416) X.1 X.2.1 dL_minute_361 (by decide) (fun c_361 => absurd (rfl) c_361) (fun c_361 => ?_)
    refine lv_aload_n X.1 X.2.1 dL_minute_364 rfl (lv_at hl 14 rfl) ?_
    refine lv_iconst (v := 2) X.1 X.2.1 dL_minute_365 (by decide) ?_
    refine lv_bipush (v := 8) X.1 X.2.1 dL_minute_366 (by decide) ?_
    refine lv_iconst (v := 0) X.1 X.2.1 dL_minute_368 (by decide) ?_
    refine lv_iconst (v := 0) X.1 X.2.1 dL_minute_369 (by decide) ?_
    refine kGL (rest := []) (As := [.ref ho, .int 2, .int 8, .int 0, .int 0]) X hP hD hS hl.1 o35.len (q_about l hst G kk (by omega) o35 (8 : Int32) 0 0 ) sl_L_138 ⟨Nat.le_of_ble_eq_true rfl, Nat.le_of_ble_eq_true rfl, rfl, rfl⟩ ⟨by show _ ≤ 60; omega, by show _ ≤ 360; omega⟩ rfl (Nat.le_of_ble_eq_true rfl) dL_minute_370 (fun w36 r36 H locs hΦ a36 hP hD hS => ?_)
    obtain ⟨o36, rfl⟩ := hΦ
    replace a36 := a36.trans a35
    refine top_eq (y := (σ.1 7 + (RUNF σ.1 1 7 - σ.1 7))) ((qa_8 σ1.1).trans (by rw [f1]; exact add_back (σ.1 7) (RUNF σ.1 1 7))) ?_
    refine lv_iload X.1 X.2.1 dL_minute_373 (lv_at hl 5 rfl) ?_
    refine lv_icmp_ne (tgt := 416) X.1 X.2.1 dL_minute_375 (by decide) (fun c_375 => absurd (rfl) c_375) (fun c_375 => ?_)
    refine lv_iload X.1 X.2.1 dL_minute_378 (lv_at hl 1 rfl) ?_
    refine lv_aload_n X.1 X.2.1 dL_minute_380 rfl (lv_at hl 14 rfl) ?_
    refine lv_iconst (v := 3) X.1 X.2.1 dL_minute_381 (by decide) ?_
    refine lv_iload X.1 X.2.1 dL_minute_382 (lv_at hl 12 rfl) ?_
    refine lv_iconst (v := 2) X.1 X.2.1 dL_minute_384 (by decide) ?_
    refine lv_iconst (v := 0) X.1 X.2.1 dL_minute_385 (by decide) ?_
    refine kGL (rest := [.int v15]) (As := [.ref ho, .int 3, .int (nI i), .int 2, .int 0]) X hP hD hS hl.1 o36.len (q_room l hst G kk (by omega) o36 (nI i) (2 : Int32) 0 ) sl_L_138 ⟨Nat.le_of_ble_eq_true rfl, Nat.le_of_ble_eq_true rfl, rfl, rfl⟩ ⟨by show _ ≤ 60; omega, by show _ ≤ 360; omega⟩ rfl (Nat.le_of_ble_eq_true rfl) dL_minute_386 (fun w37 r37 H locs hΦ a37 hP hD hS => ?_)
    obtain ⟨o37, rfl⟩ := hΦ
    replace a37 := a37.trans a36
    refine top_eq (y := (σ1.1 (16 + 8 * i + 2))) (qr_at okA (w := 2) h1i (by decide)) ?_
    have hw := p30
    rw [nI_cl (by omega)] at hw
    unfold WP at hw
    rw [← f1, r3, ← h15] at hw
    suffices J417 : W p l e (rmG 9 188 60 360) s m args below meth c H locs (((((((((((((((((0 + 1) + 1) + 1) + 1) + 1) + 1) + 1) + 1) + 1) + 1) + 1) + 1) + 1) + 1) + 1) + 1) + 1) (((((((((((((((((0 + 6) + 6) + 6) + 6) + 6) + 6) + 6) + 6) + 6) + 6) + 6) + 6) + 6) + 6) + 6) + 6) + 6) Q (F0 m 417 ls [.int 1]) by
      refine lv_icmp_lt (tgt := 406) X.1 X.2.1 dL_minute_389 (by decide) (fun c_389 => ?_) (fun c_389 => ?_)
      · skip
        refine lv_iload X.1 X.2.1 dL_minute_406 (lv_at hl 4 rfl) ?_
        refine lv_iconst (v := 1) X.1 X.2.1 dL_minute_408 (by decide) ?_
        refine lv_icmp_eq (tgt := 416) X.1 X.2.1 dL_minute_409 (by decide) (fun c_409 => absurd c_409 (hw.2 c_389)) (fun c_409 => ?_)
        refine lv_iconst (v := 1) X.1 X.2.1 dL_minute_412 (by decide) ?_
        refine lv_goto (tgt := 417) X.1 X.2.1 dL_minute_413 (by decide) ?_
        exact J417
      · skip
        refine lv_iload X.1 X.2.1 dL_minute_392 (lv_at hl 4 rfl) ?_
        refine lv_if_eq (tgt := 412) X.1 X.2.1 dL_minute_394 (by decide) (fun c_394 => ?_) (fun c_394 => ?_)
        · skip
          refine lv_iconst (v := 1) X.1 X.2.1 dL_minute_412 (by decide) ?_
          refine lv_goto (tgt := 417) X.1 X.2.1 dL_minute_413 (by decide) ?_
          exact J417
        · skip
          refine lv_iload X.1 X.2.1 dL_minute_397 (lv_at hl 4 rfl) ?_
          refine lv_iconst (v := 1) X.1 X.2.1 dL_minute_399 (by decide) ?_
          refine lv_icmp_ne (tgt := 416) X.1 X.2.1 dL_minute_400 (by decide) (fun c_400 => absurd ((hw.1 c_389).resolve_left c_394) c_400) (fun c_400 => ?_)
          refine lv_goto (tgt := 412) X.1 X.2.1 dL_minute_403 (by decide) ?_
          refine lv_iconst (v := 1) X.1 X.2.1 dL_minute_412 (by decide) ?_
          refine lv_goto (tgt := 417) X.1 X.2.1 dL_minute_413 (by decide) ?_
          exact J417
    refine lv_istore (lv' := [(17, .int 1), (16, .int v16), (15, .int v15), (14, .int 0), (13, .int 1), (12, .int r30), (11, .int ((σ.1 7) + (RUNF σ.1 1 7 - σ.1 7))), (10, .int (RUNF σ.1 1 5 - σ.1 5)), (9, .int (σ.1 (16 + 8 * i + 4))), (8, .int (σ.1 (16 + 8 * i + 7))), (7, .int (σ.1 (16 + 8 * i + 5))), (6, .int (σ.1 (16 + 8 * i + 3))), (5, .int 1), (4, .int (nI i)), (3, .int (nI (mF σ.1))), (0, .ref ho), (1, .ref hq), (2, .int (nI N))]) X.1 X.2.1 dL_minute_417 hl (by decide) rfl (fun ls hl => ?_)
    refine lv_iload X.1 X.2.1 dL_minute_419 (lv_at hl 0 rfl) ?_
    refine lv_if_eq (tgt := 486) X.1 X.2.1 dL_minute_421 (by decide) (fun c_421 => absurd c_421 (by decide)) (fun c_421 => ?_)
    refine lv_aload_n X.1 X.2.1 dL_minute_424 rfl (lv_at hl 15 rfl) ?_
    refine lv_bipush (v := 10) X.1 X.2.1 dL_minute_425 (by decide) ?_
    refine lv_iconst (v := 0) X.1 X.2.1 dL_minute_427 (by decide) ?_
    refine lv_iconst (v := 0) X.1 X.2.1 dL_minute_428 (by decide) ?_
    refine lv_iconst (v := 0) X.1 X.2.1 dL_minute_429 (by decide) ?_
    refine kGL (rest := []) (As := [.ref ho, .int 10, .int 0, .int 0, .int 0]) X hP hD hS hl.1 o37.len (q_undo l hst G kk (by omega) o37  0 0 0 (hc1)) sl_L_138 ⟨Nat.le_of_ble_eq_true rfl, Nat.le_of_ble_eq_true rfl, rfl, rfl⟩ ⟨by show _ ≤ 60; omega, by show _ ≤ 360; omega⟩ rfl (Nat.le_of_ble_eq_true rfl) dL_minute_430 (fun w38 r38 H locs hΦ a38 hP hD hS => ?_)
    obtain ⟨o38, rfl⟩ := hΦ
    replace a38 := a38.trans a37
    refine k_goI (k_runS (rest := []) (As := [.int (nI (σ1.2.1 - 1))]) X.1 X.2.1 X.2.2.1 X.2.2.2.1 X.2.2.2.2.1 X.2.2.2.2.2.1 hP hD hS X.2.2.2.2.2.2.1 X.2.2.2.2.2.2.2.1 hl.1 (c_L_thrown l G kk (nI (σ1.2.1 - 1))) sl_L_190 ⟨Nat.le_of_ble_eq_true rfl, Nat.le_of_ble_eq_true rfl, rfl, rfl⟩ [] rfl rfl ⟨by show _ ≤ 60; omega, by show _ ≤ 360; omega⟩ rfl (Nat.le_of_ble_eq_true rfl) dL_minute_433) hP hD hS X.2.2.2.2.2.2.1 [] rfl rfl (fun H locs hP hD hS => ?_)
    replace hP : va_P G vwCl (w38 ++ w32) H := hP
    replace hD : va_D A (w38 ++ w32) := hD
    refine top_eq (y := 0) (thrown_n (by omega)) ?_
    refine lv_if_ne (tgt := 486) X.1 X.2.1 dL_minute_436 (by decide) (fun c_436 => absurd (by decide) c_436) (fun c_436 => ?_)
    refine lv_aload_n X.1 X.2.1 dL_minute_439 rfl (lv_at hl 16 rfl) ?_
    refine lv_bipush (v := 10) X.1 X.2.1 dL_minute_440 (by decide) ?_
    refine lv_iconst (v := 0) X.1 X.2.1 dL_minute_442 (by decide) ?_
    refine lv_iconst (v := 0) X.1 X.2.1 dL_minute_443 (by decide) ?_
    refine lv_iconst (v := 0) X.1 X.2.1 dL_minute_444 (by decide) ?_
    refine kGR (rest := []) (As := [.ref hq, .int 10, .int 0, .int 0, .int 0]) X hP hD hS hl.1 o32.len o38.len (q_undo l hst G kk (by omega) o32  0 0 0 (hc1)) sl_L_138 ⟨Nat.le_of_ble_eq_true rfl, Nat.le_of_ble_eq_true rfl, rfl, rfl⟩ ⟨by show _ ≤ 60; omega, by show _ ≤ 360; omega⟩ rfl (Nat.le_of_ble_eq_true rfl) dL_minute_445 (fun w39 r39 H locs hΦ a39 hP hD hS => ?_)
    obtain ⟨o39, rfl⟩ := hΦ
    replace a39 := a39.trans a32
    refine k_goI (k_runS (rest := []) (As := [.int (nI (σ1.2.1 - 1))]) X.1 X.2.1 X.2.2.1 X.2.2.2.1 X.2.2.2.2.1 X.2.2.2.2.2.1 hP hD hS X.2.2.2.2.2.2.1 X.2.2.2.2.2.2.2.1 hl.1 (c_L_thrown l G kk (nI (σ1.2.1 - 1))) sl_L_190 ⟨Nat.le_of_ble_eq_true rfl, Nat.le_of_ble_eq_true rfl, rfl, rfl⟩ [] rfl rfl ⟨by show _ ≤ 60; omega, by show _ ≤ 360; omega⟩ rfl (Nat.le_of_ble_eq_true rfl) dL_minute_448) hP hD hS X.2.2.2.2.2.2.1 [] rfl rfl (fun H locs hP hD hS => ?_)
    replace hP : va_P G vwCl (w38 ++ w39) H := hP
    replace hD : va_D A (w38 ++ w39) := hD
    refine top_eq (y := 0) (thrown_n (by omega)) ?_
    refine lv_if_ne (tgt := 486) X.1 X.2.1 dL_minute_451 (by decide) (fun c_451 => absurd (by decide) c_451) (fun c_451 => ?_)
    refine lv_aload_n X.1 X.2.1 dL_minute_454 rfl (lv_at hl 15 rfl) ?_
    refine lv_iconst (v := 3) X.1 X.2.1 dL_minute_455 (by decide) ?_
    refine lv_iload X.1 X.2.1 dL_minute_456 (lv_at hl 13 rfl) ?_
    refine lv_iconst (v := 3) X.1 X.2.1 dL_minute_458 (by decide) ?_
    refine lv_iconst (v := 0) X.1 X.2.1 dL_minute_459 (by decide) ?_
    refine kGL (rest := []) (As := [.ref ho, .int 3, .int (nI i), .int 3, .int 0]) X hP hD hS hl.1 o38.len (q_room l hst G kk (by omega) o38 (nI i) (3 : Int32) 0 ) sl_L_138 ⟨Nat.le_of_ble_eq_true rfl, Nat.le_of_ble_eq_true rfl, rfl, rfl⟩ ⟨by show _ ≤ 60; omega, by show _ ≤ 360; omega⟩ rfl (Nat.le_of_ble_eq_true rfl) dL_minute_460 (fun w40 r40 H locs hΦ a40 hP hD hS => ?_)
    obtain ⟨o40, rfl⟩ := hΦ
    replace a40 := a40.trans a38
    refine top_eq (y := (σ.1 (16 + 8 * i + 3))) ((by rw [f2]; exact qr_at ok (w := 3) hi (by decide))) ?_
    refine lv_iload X.1 X.2.1 dL_minute_463 (lv_at hl 11 rfl) ?_
    refine lv_icmp_ne (tgt := 486) X.1 X.2.1 dL_minute_465 (by decide) (fun c_465 => absurd (rfl) c_465) (fun c_465 => ?_)
    refine lv_aload_n X.1 X.2.1 dL_minute_468 rfl (lv_at hl 15 rfl) ?_
    refine lv_iconst (v := 4) X.1 X.2.1 dL_minute_469 (by decide) ?_
    refine lv_iload X.1 X.2.1 dL_minute_470 (lv_at hl 13 rfl) ?_
    refine lv_iconst (v := 0) X.1 X.2.1 dL_minute_472 (by decide) ?_
    refine lv_iconst (v := 0) X.1 X.2.1 dL_minute_473 (by decide) ?_
    refine kGL (rest := []) (As := [.ref ho, .int 4, .int (nI i), .int 0, .int 0]) X hP hD hS hl.1 o40.len (q_does l hst G kk (by omega) o40 (nI i) 0 0 ) sl_L_138 ⟨Nat.le_of_ble_eq_true rfl, Nat.le_of_ble_eq_true rfl, rfl, rfl⟩ ⟨by show _ ≤ 60; omega, by show _ ≤ 360; omega⟩ rfl (Nat.le_of_ble_eq_true rfl) dL_minute_474 (fun w41 r41 H locs hΦ a41 hP hD hS => ?_)
    obtain ⟨o41, rfl⟩ := hΦ
    replace a41 := a41.trans a40
    refine top_eq (y := 1) ((by rw [f2]; exact (qd_at ok hi).trans hd1)) ?_
    refine lv_iload X.1 X.2.1 dL_minute_477 (lv_at hl 12 rfl) ?_
    refine lv_icmp_ne (tgt := 486) X.1 X.2.1 dL_minute_479 (by decide) (fun c_479 => absurd (by decide) c_479) (fun c_479 => ?_)
    refine lv_iconst (v := 1) X.1 X.2.1 dL_minute_482 (by decide) ?_
    refine lv_goto (tgt := 487) X.1 X.2.1 dL_minute_483 (by decide) ?_
    refine W.widen (k := 60) (n := 360) (by omega) (by omega) ?_
    exact FIN _ 1 H locs ls 487 ⟨⟨_, _, rfl, o41, o39⟩, rfl⟩ (ads_app a41 a39) hP hD hS (fun _ => rfl) dL_minute_487
  · skip
    refine kGL (rest := []) (As := [.ref ho, .int 4, .int (nI i), .int 0, .int 0]) X hP hD hS hl.1 o1.len (q_does l hst G kk (by omega) o1 (nI i) 0 0 ) sl_L_138 ⟨Nat.le_of_ble_eq_true rfl, Nat.le_of_ble_eq_true rfl, rfl, rfl⟩ ⟨by show _ ≤ 60; omega, by show _ ≤ 360; omega⟩ rfl (Nat.le_of_ble_eq_true rfl) dL_minute_20 (fun w42 r42 H locs hΦ a42 hP hD hS => ?_)
    obtain ⟨o42, rfl⟩ := hΦ
    replace a42 := a42.trans a1
    refine top_eq (y := 2) ((qd_at ok hi).trans hd1) ?_
    refine lv_istore (lv' := [(5, .int 2), (4, .int (nI i)), (3, .int (nI (mF σ.1))), (0, .ref ho), (1, .ref hq), (2, .int (nI N))]) X.1 X.2.1 dL_minute_23 hl (by decide) rfl (fun ls hl => ?_)
    refine lv_aload_n X.1 X.2.1 dL_minute_25 rfl (lv_at hl 3 rfl) ?_
    refine lv_iconst (v := 3) X.1 X.2.1 dL_minute_26 (by decide) ?_
    refine lv_iload X.1 X.2.1 dL_minute_27 (lv_at hl 1 rfl) ?_
    refine lv_iconst (v := 3) X.1 X.2.1 dL_minute_29 (by decide) ?_
    refine lv_iconst (v := 0) X.1 X.2.1 dL_minute_30 (by decide) ?_
    refine kGL (rest := []) (As := [.ref ho, .int 3, .int (nI i), .int 3, .int 0]) X hP hD hS hl.1 o42.len (q_room l hst G kk (by omega) o42 (nI i) (3 : Int32) 0 ) sl_L_138 ⟨Nat.le_of_ble_eq_true rfl, Nat.le_of_ble_eq_true rfl, rfl, rfl⟩ ⟨by show _ ≤ 60; omega, by show _ ≤ 360; omega⟩ rfl (Nat.le_of_ble_eq_true rfl) dL_minute_31 (fun w43 r43 H locs hΦ a43 hP hD hS => ?_)
    obtain ⟨o43, rfl⟩ := hΦ
    replace a43 := a43.trans a42
    refine top_eq (y := (σ.1 (16 + 8 * i + 3))) (qr_at ok (w := 3) hi (by decide)) ?_
    refine lv_istore (lv' := [(6, .int (σ.1 (16 + 8 * i + 3))), (5, .int 2), (4, .int (nI i)), (3, .int (nI (mF σ.1))), (0, .ref ho), (1, .ref hq), (2, .int (nI N))]) X.1 X.2.1 dL_minute_34 hl (by decide) rfl (fun ls hl => ?_)
    refine lv_aload_n X.1 X.2.1 dL_minute_36 rfl (lv_at hl 4 rfl) ?_
    refine lv_iconst (v := 3) X.1 X.2.1 dL_minute_37 (by decide) ?_
    refine lv_iload X.1 X.2.1 dL_minute_38 (lv_at hl 2 rfl) ?_
    refine lv_iconst (v := 5) X.1 X.2.1 dL_minute_40 (by decide) ?_
    refine lv_iconst (v := 0) X.1 X.2.1 dL_minute_41 (by decide) ?_
    refine kGL (rest := []) (As := [.ref ho, .int 3, .int (nI i), .int 5, .int 0]) X hP hD hS hl.1 o43.len (q_room l hst G kk (by omega) o43 (nI i) (5 : Int32) 0 ) sl_L_138 ⟨Nat.le_of_ble_eq_true rfl, Nat.le_of_ble_eq_true rfl, rfl, rfl⟩ ⟨by show _ ≤ 60; omega, by show _ ≤ 360; omega⟩ rfl (Nat.le_of_ble_eq_true rfl) dL_minute_42 (fun w44 r44 H locs hΦ a44 hP hD hS => ?_)
    obtain ⟨o44, rfl⟩ := hΦ
    replace a44 := a44.trans a43
    refine top_eq (y := (σ.1 (16 + 8 * i + 5))) (qr_at ok (w := 5) hi (by decide)) ?_
    refine lv_istore (lv' := [(7, .int (σ.1 (16 + 8 * i + 5))), (6, .int (σ.1 (16 + 8 * i + 3))), (5, .int 2), (4, .int (nI i)), (3, .int (nI (mF σ.1))), (0, .ref ho), (1, .ref hq), (2, .int (nI N))]) X.1 X.2.1 dL_minute_45 hl (by decide) rfl (fun ls hl => ?_)
    refine lv_aload_n X.1 X.2.1 dL_minute_47 rfl (lv_at hl 5 rfl) ?_
    refine lv_iconst (v := 3) X.1 X.2.1 dL_minute_48 (by decide) ?_
    refine lv_iload X.1 X.2.1 dL_minute_49 (lv_at hl 3 rfl) ?_
    refine lv_bipush (v := 7) X.1 X.2.1 dL_minute_51 (by decide) ?_
    refine lv_iconst (v := 0) X.1 X.2.1 dL_minute_53 (by decide) ?_
    refine kGL (rest := []) (As := [.ref ho, .int 3, .int (nI i), .int 7, .int 0]) X hP hD hS hl.1 o44.len (q_room l hst G kk (by omega) o44 (nI i) (7 : Int32) 0 ) sl_L_138 ⟨Nat.le_of_ble_eq_true rfl, Nat.le_of_ble_eq_true rfl, rfl, rfl⟩ ⟨by show _ ≤ 60; omega, by show _ ≤ 360; omega⟩ rfl (Nat.le_of_ble_eq_true rfl) dL_minute_54 (fun w45 r45 H locs hΦ a45 hP hD hS => ?_)
    obtain ⟨o45, rfl⟩ := hΦ
    replace a45 := a45.trans a44
    refine top_eq (y := (σ.1 (16 + 8 * i + 7))) (qr_at ok (w := 7) hi (by decide)) ?_
    refine lv_istore (lv' := [(8, .int (σ.1 (16 + 8 * i + 7))), (7, .int (σ.1 (16 + 8 * i + 5))), (6, .int (σ.1 (16 + 8 * i + 3))), (5, .int 2), (4, .int (nI i)), (3, .int (nI (mF σ.1))), (0, .ref ho), (1, .ref hq), (2, .int (nI N))]) X.1 X.2.1 dL_minute_57 hl (by decide) rfl (fun ls hl => ?_)
    refine lv_aload_n X.1 X.2.1 dL_minute_59 rfl (lv_at hl 6 rfl) ?_
    refine lv_iconst (v := 3) X.1 X.2.1 dL_minute_60 (by decide) ?_
    refine lv_iload X.1 X.2.1 dL_minute_61 (lv_at hl 4 rfl) ?_
    refine lv_iconst (v := 4) X.1 X.2.1 dL_minute_63 (by decide) ?_
    refine lv_iconst (v := 0) X.1 X.2.1 dL_minute_64 (by decide) ?_
    refine kGL (rest := []) (As := [.ref ho, .int 3, .int (nI i), .int 4, .int 0]) X hP hD hS hl.1 o45.len (q_room l hst G kk (by omega) o45 (nI i) (4 : Int32) 0 ) sl_L_138 ⟨Nat.le_of_ble_eq_true rfl, Nat.le_of_ble_eq_true rfl, rfl, rfl⟩ ⟨by show _ ≤ 60; omega, by show _ ≤ 360; omega⟩ rfl (Nat.le_of_ble_eq_true rfl) dL_minute_65 (fun w46 r46 H locs hΦ a46 hP hD hS => ?_)
    obtain ⟨o46, rfl⟩ := hΦ
    replace a46 := a46.trans a45
    refine top_eq (y := (σ.1 (16 + 8 * i + 4))) (qr_at ok (w := 4) hi (by decide)) ?_
    refine lv_istore (lv' := [(9, .int (σ.1 (16 + 8 * i + 4))), (8, .int (σ.1 (16 + 8 * i + 7))), (7, .int (σ.1 (16 + 8 * i + 5))), (6, .int (σ.1 (16 + 8 * i + 3))), (5, .int 2), (4, .int (nI i)), (3, .int (nI (mF σ.1))), (0, .ref ho), (1, .ref hq), (2, .int (nI N))]) X.1 X.2.1 dL_minute_68 hl (by decide) rfl (fun ls hl => ?_)
    refine lv_aload_n X.1 X.2.1 dL_minute_70 rfl (lv_at hl 7 rfl) ?_
    refine lv_bipush (v := 12) X.1 X.2.1 dL_minute_71 (by decide) ?_
    refine lv_iconst (v := 1) X.1 X.2.1 dL_minute_73 (by decide) ?_
    refine lv_iconst (v := 0) X.1 X.2.1 dL_minute_74 (by decide) ?_
    refine lv_iconst (v := 0) X.1 X.2.1 dL_minute_75 (by decide) ?_
    refine kGL (rest := []) (As := [.ref ho, .int 12, .int 1, .int 0, .int 0]) X hP hD hS hl.1 o46.len (q_coming l hst G kk (by omega) o46 (1 : Int32) (0 : Int32) 0 (rfl) (Or.inl rfl)) sl_L_138 ⟨Nat.le_of_ble_eq_true rfl, Nat.le_of_ble_eq_true rfl, rfl, rfl⟩ ⟨by show _ ≤ 60; omega, by show _ ≤ 360; omega⟩ rfl (Nat.le_of_ble_eq_true rfl) dL_minute_76 (fun w47 r47 H locs hΦ a47 hP hD hS => ?_)
    obtain ⟨o47, rfl⟩ := hΦ
    replace a47 := a47.trans a46
    refine top_eq (y := (RUNF σ.1 1 5 - σ.1 5)) (if_pos rfl) ?_
    refine lv_istore (lv' := [(10, .int (RUNF σ.1 1 5 - σ.1 5)), (9, .int (σ.1 (16 + 8 * i + 4))), (8, .int (σ.1 (16 + 8 * i + 7))), (7, .int (σ.1 (16 + 8 * i + 5))), (6, .int (σ.1 (16 + 8 * i + 3))), (5, .int 2), (4, .int (nI i)), (3, .int (nI (mF σ.1))), (0, .ref ho), (1, .ref hq), (2, .int (nI N))]) X.1 X.2.1 dL_minute_79 hl (by decide) rfl (fun ls hl => ?_)
    refine lv_aload_n X.1 X.2.1 dL_minute_81 rfl (lv_at hl 8 rfl) ?_
    refine lv_iconst (v := 2) X.1 X.2.1 dL_minute_82 (by decide) ?_
    refine lv_bipush (v := 8) X.1 X.2.1 dL_minute_83 (by decide) ?_
    refine lv_iconst (v := 0) X.1 X.2.1 dL_minute_85 (by decide) ?_
    refine lv_iconst (v := 0) X.1 X.2.1 dL_minute_86 (by decide) ?_
    refine kGL (rest := []) (As := [.ref ho, .int 2, .int 8, .int 0, .int 0]) X hP hD hS hl.1 o47.len (q_about l hst G kk (by omega) o47 (8 : Int32) 0 0 ) sl_L_138 ⟨Nat.le_of_ble_eq_true rfl, Nat.le_of_ble_eq_true rfl, rfl, rfl⟩ ⟨by show _ ≤ 60; omega, by show _ ≤ 360; omega⟩ rfl (Nat.le_of_ble_eq_true rfl) dL_minute_87 (fun w48 r48 H locs hΦ a48 hP hD hS => ?_)
    obtain ⟨o48, rfl⟩ := hΦ
    replace a48 := a48.trans a47
    refine top_eq (y := (σ.1 7)) (qa_8 σ.1) ?_
    refine lv_aload_n X.1 X.2.1 dL_minute_90 rfl (lv_at hl 8 rfl) ?_
    refine lv_bipush (v := 12) X.1 X.2.1 dL_minute_91 (by decide) ?_
    refine lv_iconst (v := 1) X.1 X.2.1 dL_minute_93 (by decide) ?_
    refine lv_iconst (v := 3) X.1 X.2.1 dL_minute_94 (by decide) ?_
    refine lv_iconst (v := 0) X.1 X.2.1 dL_minute_95 (by decide) ?_
    refine kGL (rest := [.int (σ.1 7)]) (As := [.ref ho, .int 12, .int 1, .int 3, .int 0]) X hP hD hS hl.1 o48.len (q_coming l hst G kk (by omega) o48 (1 : Int32) (3 : Int32) 0 (rfl) (Or.inr rfl)) sl_L_138 ⟨Nat.le_of_ble_eq_true rfl, Nat.le_of_ble_eq_true rfl, rfl, rfl⟩ ⟨by show _ ≤ 60; omega, by show _ ≤ 360; omega⟩ rfl (Nat.le_of_ble_eq_true rfl) dL_minute_96 (fun w49 r49 H locs hΦ a49 hP hD hS => ?_)
    obtain ⟨o49, rfl⟩ := hΦ
    replace a49 := a49.trans a48
    refine top_eq (y := (RUNF σ.1 1 7 - σ.1 7)) (if_neg (by decide)) ?_
    refine lv_iadd X.1 X.2.1 dL_minute_99 ?_
    refine lv_istore (lv' := [(11, .int ((σ.1 7) + (RUNF σ.1 1 7 - σ.1 7))), (10, .int (RUNF σ.1 1 5 - σ.1 5)), (9, .int (σ.1 (16 + 8 * i + 4))), (8, .int (σ.1 (16 + 8 * i + 7))), (7, .int (σ.1 (16 + 8 * i + 5))), (6, .int (σ.1 (16 + 8 * i + 3))), (5, .int 2), (4, .int (nI i)), (3, .int (nI (mF σ.1))), (0, .ref ho), (1, .ref hq), (2, .int (nI N))]) X.1 X.2.1 dL_minute_100 hl (by decide) rfl (fun ls hl => ?_)
    refine lv_aload_n X.1 X.2.1 dL_minute_102 rfl (lv_at hl 9 rfl) ?_
    refine lv_bipush (v := 11) X.1 X.2.1 dL_minute_103 (by decide) ?_
    refine lv_iload X.1 X.2.1 dL_minute_105 (lv_at hl 7 rfl) ?_
    refine lv_iconst (v := 0) X.1 X.2.1 dL_minute_107 (by decide) ?_
    refine lv_iconst (v := 0) X.1 X.2.1 dL_minute_108 (by decide) ?_
    refine kGL (rest := []) (As := [.ref ho, .int 11, .int (nI i), .int 0, .int 0]) X hP hD hS hl.1 o49.len (q_warm l hst G kk (by omega) o49 (nI i) 0 0 (ir_yes ok hi)) sl_L_138 ⟨Nat.le_of_ble_eq_true rfl, Nat.le_of_ble_eq_true rfl, rfl, rfl⟩ ⟨by show _ ≤ 60; omega, by show _ ≤ 360; omega⟩ rfl (Nat.le_of_ble_eq_true rfl) dL_minute_109 (fun w50 r50 H locs hΦ a50 hP hD hS => ?_)
    obtain ⟨o50, p50⟩ := hΦ
    replace a50 := a50.trans a49
    refine lv_istore (lv' := [(12, .int r50), (11, .int ((σ.1 7) + (RUNF σ.1 1 7 - σ.1 7))), (10, .int (RUNF σ.1 1 5 - σ.1 5)), (9, .int (σ.1 (16 + 8 * i + 4))), (8, .int (σ.1 (16 + 8 * i + 7))), (7, .int (σ.1 (16 + 8 * i + 5))), (6, .int (σ.1 (16 + 8 * i + 3))), (5, .int 2), (4, .int (nI i)), (3, .int (nI (mF σ.1))), (0, .ref ho), (1, .ref hq), (2, .int (nI N))]) X.1 X.2.1 dL_minute_112 hl (by decide) rfl (fun ls hl => ?_)
    refine lv_iload X.1 X.2.1 dL_minute_114 (lv_at hl 7 rfl) ?_
    refine lv_iconst (v := 1) X.1 X.2.1 dL_minute_116 (by decide) ?_
    refine lv_icmp_eq (tgt := 126) X.1 X.2.1 dL_minute_117 (by decide) (fun c_117 => absurd c_117 (by decide)) (fun c_117 => ?_)
    refine lv_iload X.1 X.2.1 dL_minute_120 (lv_at hl 7 rfl) ?_
    refine lv_iconst (v := 3) X.1 X.2.1 dL_minute_122 (by decide) ?_
    refine lv_icmp_ne (tgt := 130) X.1 X.2.1 dL_minute_123 (by decide) (fun c_123 => ?_) (fun c_123 => absurd c_123 (by decide))
    refine lv_iconst (v := 0) X.1 X.2.1 dL_minute_130 (by decide) ?_
    refine lv_istore (lv' := [(13, .int 0), (12, .int r50), (11, .int ((σ.1 7) + (RUNF σ.1 1 7 - σ.1 7))), (10, .int (RUNF σ.1 1 5 - σ.1 5)), (9, .int (σ.1 (16 + 8 * i + 4))), (8, .int (σ.1 (16 + 8 * i + 7))), (7, .int (σ.1 (16 + 8 * i + 5))), (6, .int (σ.1 (16 + 8 * i + 3))), (5, .int 2), (4, .int (nI i)), (3, .int (nI (mF σ.1))), (0, .ref ho), (1, .ref hq), (2, .int (nI N))]) X.1 X.2.1 dL_minute_131 hl (by decide) rfl (fun ls hl => ?_)
    refine lv_iload X.1 X.2.1 dL_minute_133 (lv_at hl 8 rfl) ?_
    refine lv_if_eq (tgt := 150) X.1 X.2.1 dL_minute_135 (by decide) (fun c_135 => absurd c_135 (by decide)) (fun c_135 => ?_)
    refine lv_iload X.1 X.2.1 dL_minute_138 (lv_at hl 8 rfl) ?_
    refine lv_iconst (v := 2) X.1 X.2.1 dL_minute_140 (by decide) ?_
    refine lv_icmp_eq (tgt := 150) X.1 X.2.1 dL_minute_141 (by decide) (fun c_141 => ?_) (fun c_141 => absurd (by decide) c_141)
    refine lv_iconst (v := 1) X.1 X.2.1 dL_minute_150 (by decide) ?_
    refine lv_goto (tgt := 155) X.1 X.2.1 dL_minute_151 (by decide) ?_
    refine lv_istore (lv' := [(14, .int 1), (13, .int 0), (12, .int r50), (11, .int ((σ.1 7) + (RUNF σ.1 1 7 - σ.1 7))), (10, .int (RUNF σ.1 1 5 - σ.1 5)), (9, .int (σ.1 (16 + 8 * i + 4))), (8, .int (σ.1 (16 + 8 * i + 7))), (7, .int (σ.1 (16 + 8 * i + 5))), (6, .int (σ.1 (16 + 8 * i + 3))), (5, .int 2), (4, .int (nI i)), (3, .int (nI (mF σ.1))), (0, .ref ho), (1, .ref hq), (2, .int (nI N))]) X.1 X.2.1 dL_minute_155 hl (by decide) rfl (fun ls hl => ?_)
    refine lv_iload X.1 X.2.1 dL_minute_157 (lv_at hl 8 rfl) ?_
    refine lv_iload X.1 X.2.1 dL_minute_159 (lv_at hl 1 rfl) ?_
    refine lv_if_eq (tgt := 175) X.1 X.2.1 dL_minute_161 (by decide) (fun c_161 => ?_) (fun c_161 => absurd (by decide) c_161)
    refine lv_iload X.1 X.2.1 dL_minute_175 (lv_at hl 0 rfl) ?_
    refine lv_if_eq (tgt := 185) X.1 X.2.1 dL_minute_177 (by decide) (fun c_177 => absurd c_177 (by decide)) (fun c_177 => ?_)
    refine lv_bipush (v := 6) X.1 X.2.1 dL_minute_180 (by decide) ?_
    refine lv_goto (tgt := 186) X.1 X.2.1 dL_minute_182 (by decide) ?_
    refine lv_iadd X.1 X.2.1 dL_minute_186 ?_
    refine lv_iconst (v := 4) X.1 X.2.1 dL_minute_187 (by decide) ?_
    refine lv_iload X.1 X.2.1 dL_minute_188 (lv_at hl 5 rfl) ?_
    refine lv_imul X.1 X.2.1 dL_minute_190 ?_
    refine lv_iadd X.1 X.2.1 dL_minute_191 ?_
    refine lv_istore (lv' := [(15, .int (((σ.1 (16 + 8 * i + 3)) + 6) + (4 * (σ.1 (16 + 8 * i + 4))))), (14, .int 1), (13, .int 0), (12, .int r50), (11, .int ((σ.1 7) + (RUNF σ.1 1 7 - σ.1 7))), (10, .int (RUNF σ.1 1 5 - σ.1 5)), (9, .int (σ.1 (16 + 8 * i + 4))), (8, .int (σ.1 (16 + 8 * i + 7))), (7, .int (σ.1 (16 + 8 * i + 5))), (6, .int (σ.1 (16 + 8 * i + 3))), (5, .int 2), (4, .int (nI i)), (3, .int (nI (mF σ.1))), (0, .ref ho), (1, .ref hq), (2, .int (nI N))]) X.1 X.2.1 dL_minute_192 hl (by decide) rfl (fun ls hl => ?_)
    refine lv_iload X.1 X.2.1 dL_minute_194 (lv_at hl 0 rfl) ?_
    refine lv_sipush (v := 400) X.1 X.2.1 dL_minute_196 (by decide) ?_
    have eT : sX8_clamp ((((σ.1 (16 + 8 * i + 3)) + 6) + (4 * (σ.1 (16 + 8 * i + 4))))) (-400) 400 = Tn σ.1 (JB σ.1 i) i := by rw [hd1]; exact tn_val (x := 2) hz
    suffices J15 : ∀ v15 : Int32, v15 = Tn σ.1 (JB σ.1 i) i → W p l e (rmG 9 188 60 360) s m args below meth c H locs ((((((((((0 + 1) + 1) + 1) + 1) + 1) + 1) + 1) + 1) + 1) + 1) ((((((((((0 + 6) + 6) + 6) + 6) + 6) + 6) + 6) + 6) + 6) + 6) Q (F0 m 224 ls [.int v15]) by
      refine lv_icmp_le (tgt := 208) X.1 X.2.1 dL_minute_199 (by decide) (fun c_199 => ?_) (fun c_199 => ?_)
      · skip
        refine lv_iload X.1 X.2.1 dL_minute_208 (lv_at hl 0 rfl) ?_
        refine lv_sipush (v := (-400)) X.1 X.2.1 dL_minute_210 (by decide) ?_
        refine lv_icmp_ge (tgt := 222) X.1 X.2.1 dL_minute_213 (by decide) (fun c_213 => ?_) (fun c_213 => ?_)
        · skip
          refine lv_iload X.1 X.2.1 dL_minute_222 (lv_at hl 0 rfl) ?_
          exact J15 _ ((cl_mid c_199 c_213).trans eT)
        · skip
          refine lv_sipush (v := (-400)) X.1 X.2.1 dL_minute_216 (by decide) ?_
          refine lv_goto (tgt := 224) X.1 X.2.1 dL_minute_219 (by decide) ?_
          exact J15 _ ((cl_lo c_213).trans eT)
      · skip
        refine lv_sipush (v := 400) X.1 X.2.1 dL_minute_202 (by decide) ?_
        refine lv_goto (tgt := 224) X.1 X.2.1 dL_minute_205 (by decide) ?_
        exact J15 _ ((cl_hi c_199).trans eT)
    intro v15 h15
    refine lv_istore (lv' := [(15, .int v15), (14, .int 1), (13, .int 0), (12, .int r50), (11, .int ((σ.1 7) + (RUNF σ.1 1 7 - σ.1 7))), (10, .int (RUNF σ.1 1 5 - σ.1 5)), (9, .int (σ.1 (16 + 8 * i + 4))), (8, .int (σ.1 (16 + 8 * i + 7))), (7, .int (σ.1 (16 + 8 * i + 5))), (6, .int (σ.1 (16 + 8 * i + 3))), (5, .int 2), (4, .int (nI i)), (3, .int (nI (mF σ.1))), (0, .ref ho), (1, .ref hq), (2, .int (nI N))]) X.1 X.2.1 dL_minute_224 hl (by decide) rfl (fun ls hl => ?_)
    refine lv_iload X.1 X.2.1 dL_minute_226 (lv_at hl 1 rfl) ?_
    refine lv_if_eq (tgt := 250) X.1 X.2.1 dL_minute_228 (by decide) (fun c_228 => absurd c_228 (by decide)) (fun c_228 => ?_)
    refine lv_iload X.1 X.2.1 dL_minute_231 (lv_at hl 8 rfl) ?_
    refine lv_bipush (v := 10) X.1 X.2.1 dL_minute_233 (by decide) ?_
    suffices J16 : ∀ v16 : Int32, (if v16 ≤ 100 then v16 else 100) = Fn σ.1 (JB σ.1 i) i → W p l e (rmG 9 188 60 360) s m args below meth c H locs ((((((((((0 + 1) + 1) + 1) + 1) + 1) + 1) + 1) + 1) + 1) + 1) ((((((((((0 + 6) + 6) + 6) + 6) + 6) + 6) + 6) + 6) + 6) + 6) Q (F0 m 268 ls [.int v16]) by
      refine lv_icmp_le (tgt := 246) X.1 X.2.1 dL_minute_235 (by decide) (fun c_235 => ?_) (fun c_235 => ?_)
      · skip
        refine lv_iconst (v := 0) X.1 X.2.1 dL_minute_246 (by decide) ?_
        refine lv_goto (tgt := 268) X.1 X.2.1 dL_minute_247 (by decide) ?_
        exact J16 _ (by rw [hd1]; exact fn_hot0 hf0 (by decide) c_235)
      · skip
        refine lv_iload X.1 X.2.1 dL_minute_238 (lv_at hl 8 rfl) ?_
        refine lv_bipush (v := 10) X.1 X.2.1 dL_minute_240 (by decide) ?_
        refine lv_isub X.1 X.2.1 dL_minute_242 ?_
        refine lv_goto (tgt := 268) X.1 X.2.1 dL_minute_243 (by decide) ?_
        exact J16 _ (by rw [hd1]; exact fn_hot1 hf1 (by decide) c_235)
    intro v16 h16
    refine lv_istore (lv' := [(16, .int v16), (15, .int v15), (14, .int 1), (13, .int 0), (12, .int r50), (11, .int ((σ.1 7) + (RUNF σ.1 1 7 - σ.1 7))), (10, .int (RUNF σ.1 1 5 - σ.1 5)), (9, .int (σ.1 (16 + 8 * i + 4))), (8, .int (σ.1 (16 + 8 * i + 7))), (7, .int (σ.1 (16 + 8 * i + 5))), (6, .int (σ.1 (16 + 8 * i + 3))), (5, .int 2), (4, .int (nI i)), (3, .int (nI (mF σ.1))), (0, .ref ho), (1, .ref hq), (2, .int (nI N))]) X.1 X.2.1 dL_minute_268 hl (by decide) rfl (fun ls hl => ?_)
    refine lv_aload_n X.1 X.2.1 dL_minute_270 rfl (lv_at hl 14 rfl) ?_
    refine lv_bipush (v := 8) X.1 X.2.1 dL_minute_271 (by decide) ?_
    refine lv_iconst (v := 1) X.1 X.2.1 dL_minute_273 (by decide) ?_
    refine lv_iconst (v := 0) X.1 X.2.1 dL_minute_274 (by decide) ?_
    refine lv_iconst (v := 0) X.1 X.2.1 dL_minute_275 (by decide) ?_
    refine kGL (rest := []) (As := [.ref ho, .int 8, .int 1, .int 0, .int 0]) X hP hD hS hl.1 o50.len (q_run l hst G kk (by omega) o50 (1 : Int32) 0 0 (by decide)) sl_L_138 ⟨Nat.le_of_ble_eq_true rfl, Nat.le_of_ble_eq_true rfl, rfl, rfl⟩ ⟨by show _ ≤ 60; omega, by show _ ≤ 360; omega⟩ rfl (Nat.le_of_ble_eq_true rfl) dL_minute_276 (fun w51 r51 H locs hΦ a51 hP hD hS => ?_)
    obtain ⟨o51, rfl⟩ := hΦ
    replace a51 := a51.trans a50
    replace o51 : OB kk (B + 60) σ1 ho w51 := by rw [hσ]; exact o51
    have okA := o51.row.1
    have h1i : i < mF σ1.1 := by rw [m1]; exact hi
    refine top_eq (y := (RUNF σ.1 1 5 - σ.1 5)) (by rw [show (1 : Int32).toNatClampNeg = 1 from rfl]) ?_
    refine lv_iload X.1 X.2.1 dL_minute_279 (lv_at hl 6 rfl) ?_
    refine lv_icmp_ne (tgt := 416) X.1 X.2.1 dL_minute_281 (by decide) (fun c_281 => absurd (rfl) c_281) (fun c_281 => ?_)
    refine lv_aload_n X.1 X.2.1 dL_minute_284 rfl (lv_at hl 15 rfl) ?_
    refine lv_bipush (v := 8) X.1 X.2.1 dL_minute_285 (by decide) ?_
    refine lv_iconst (v := 1) X.1 X.2.1 dL_minute_287 (by decide) ?_
    refine lv_iconst (v := 0) X.1 X.2.1 dL_minute_288 (by decide) ?_
    refine lv_iconst (v := 0) X.1 X.2.1 dL_minute_289 (by decide) ?_
    refine kGR (rest := []) (As := [.ref hq, .int 8, .int 1, .int 0, .int 0]) X hP hD hS hl.1 ob.len o51.len (q_run l hst G kk (by omega) ob (1 : Int32) 0 0 (by decide)) sl_L_138 ⟨Nat.le_of_ble_eq_true rfl, Nat.le_of_ble_eq_true rfl, rfl, rfl⟩ ⟨by show _ ≤ 60; omega, by show _ ≤ 360; omega⟩ rfl (Nat.le_of_ble_eq_true rfl) dL_minute_290 (fun w52 r52 H locs hΦ a52 hP hD hS => ?_)
    obtain ⟨o52, rfl⟩ := hΦ
    replace a52 := a52.trans b0
    replace o52 : OB kk (B + 60) σ1 hq w52 := by rw [hσ]; exact o52
    refine top_eq (y := (RUNF σ.1 1 5 - σ.1 5)) (by rw [show (1 : Int32).toNatClampNeg = 1 from rfl]) ?_
    refine lv_iload X.1 X.2.1 dL_minute_293 (lv_at hl 6 rfl) ?_
    refine lv_icmp_ne (tgt := 416) X.1 X.2.1 dL_minute_295 (by decide) (fun c_295 => absurd (rfl) c_295) (fun c_295 => ?_)
    refine lv_aload_n X.1 X.2.1 dL_minute_298 rfl (lv_at hl 14 rfl) ?_
    refine lv_iconst (v := 3) X.1 X.2.1 dL_minute_299 (by decide) ?_
    refine lv_iload X.1 X.2.1 dL_minute_300 (lv_at hl 12 rfl) ?_
    refine lv_iconst (v := 3) X.1 X.2.1 dL_minute_302 (by decide) ?_
    refine lv_iconst (v := 0) X.1 X.2.1 dL_minute_303 (by decide) ?_
    refine kGL (rest := []) (As := [.ref ho, .int 3, .int (nI i), .int 3, .int 0]) X hP hD hS hl.1 o51.len (q_room l hst G kk (by omega) o51 (nI i) (3 : Int32) 0 ) sl_L_138 ⟨Nat.le_of_ble_eq_true rfl, Nat.le_of_ble_eq_true rfl, rfl, rfl⟩ ⟨by show _ ≤ 60; omega, by show _ ≤ 360; omega⟩ rfl (Nat.le_of_ble_eq_true rfl) dL_minute_304 (fun w53 r53 H locs hΦ a53 hP hD hS => ?_)
    obtain ⟨o53, rfl⟩ := hΦ
    replace a53 := a53.trans a51
    refine top_eq (y := (Tn σ.1 (JB σ.1 i) i)) ((qr_at okA (w := 3) h1i (by decide)).trans r3) ?_
    refine lv_iload X.1 X.2.1 dL_minute_307 (lv_at hl 1 rfl) ?_
    refine lv_icmp_ne (tgt := 416) X.1 X.2.1 dL_minute_309 (by decide) (fun c_309 => absurd (h15.symm) c_309) (fun c_309 => ?_)
    refine lv_aload_n X.1 X.2.1 dL_minute_312 rfl (lv_at hl 14 rfl) ?_
    refine lv_iconst (v := 3) X.1 X.2.1 dL_minute_313 (by decide) ?_
    refine lv_iload X.1 X.2.1 dL_minute_314 (lv_at hl 12 rfl) ?_
    refine lv_iconst (v := 5) X.1 X.2.1 dL_minute_316 (by decide) ?_
    refine lv_iconst (v := 0) X.1 X.2.1 dL_minute_317 (by decide) ?_
    refine kGL (rest := []) (As := [.ref ho, .int 3, .int (nI i), .int 5, .int 0]) X hP hD hS hl.1 o53.len (q_room l hst G kk (by omega) o53 (nI i) (5 : Int32) 0 ) sl_L_138 ⟨Nat.le_of_ble_eq_true rfl, Nat.le_of_ble_eq_true rfl, rfl, rfl⟩ ⟨by show _ ≤ 60; omega, by show _ ≤ 360; omega⟩ rfl (Nat.le_of_ble_eq_true rfl) dL_minute_318 (fun w54 r54 H locs hΦ a54 hP hD hS => ?_)
    obtain ⟨o54, rfl⟩ := hΦ
    replace a54 := a54.trans a53
    refine top_eq (y := (Fn σ.1 (JB σ.1 i) i)) ((qr_at okA (w := 5) h1i (by decide)).trans r5) ?_
    refine lv_iload X.1 X.2.1 dL_minute_321 (lv_at hl 0 rfl) ?_
    refine lv_bipush (v := 100) X.1 X.2.1 dL_minute_323 (by decide) ?_
    suffices J338 : W p l e (rmG 9 188 60 360) s m args below meth c H locs ((((((((((((((0 + 1) + 1) + 1) + 1) + 1) + 1) + 1) + 1) + 1) + 1) + 1) + 1) + 1) + 1) ((((((((((((((0 + 6) + 6) + 6) + 6) + 6) + 6) + 6) + 6) + 6) + 6) + 6) + 6) + 6) + 6) Q (F0 m 338 ls []) by
      refine lv_icmp_le (tgt := 333) X.1 X.2.1 dL_minute_325 (by decide) (fun c_325 => ?_) (fun c_325 => ?_)
      · skip
        refine lv_iload X.1 X.2.1 dL_minute_333 (lv_at hl 0 rfl) ?_
        refine lv_icmp_ne (tgt := 416) X.1 X.2.1 dL_minute_335 (by decide) (fun c_335 => absurd ((by rw [if_pos c_325] at h16; exact h16.symm)) c_335) (fun c_335 => ?_)
        exact J338
      · skip
        refine lv_bipush (v := 100) X.1 X.2.1 dL_minute_328 (by decide) ?_
        refine lv_goto (tgt := 335) X.1 X.2.1 dL_minute_330 (by decide) ?_
        refine lv_icmp_ne (tgt := 416) X.1 X.2.1 dL_minute_335 (by decide) (fun c_335 => absurd ((by rw [if_neg c_325] at h16; exact h16.symm)) c_335) (fun c_335 => ?_)
        exact J338
    refine lv_aload_n X.1 X.2.1 dL_minute_338 rfl (lv_at hl 14 rfl) ?_
    refine lv_iconst (v := 3) X.1 X.2.1 dL_minute_339 (by decide) ?_
    refine lv_iload X.1 X.2.1 dL_minute_340 (lv_at hl 12 rfl) ?_
    refine lv_bipush (v := 7) X.1 X.2.1 dL_minute_342 (by decide) ?_
    refine lv_iconst (v := 0) X.1 X.2.1 dL_minute_344 (by decide) ?_
    refine kGL (rest := []) (As := [.ref ho, .int 3, .int (nI i), .int 7, .int 0]) X hP hD hS hl.1 o54.len (q_room l hst G kk (by omega) o54 (nI i) (7 : Int32) 0 ) sl_L_138 ⟨Nat.le_of_ble_eq_true rfl, Nat.le_of_ble_eq_true rfl, rfl, rfl⟩ ⟨by show _ ≤ 60; omega, by show _ ≤ 360; omega⟩ rfl (Nat.le_of_ble_eq_true rfl) dL_minute_345 (fun w55 r55 H locs hΦ a55 hP hD hS => ?_)
    obtain ⟨o55, rfl⟩ := hΦ
    replace a55 := a55.trans a54
    refine top_eq (y := (σ.1 (16 + 8 * i + 7) + 0)) (((qr_at okA (w := 7) h1i (by decide)).trans r7).trans (by rw [hd1]; rfl)) ?_
    refine lv_iload X.1 X.2.1 dL_minute_348 (lv_at hl 8 rfl) ?_
    refine lv_iload X.1 X.2.1 dL_minute_350 (lv_at hl 3 rfl) ?_
    refine lv_if_eq (tgt := 359) X.1 X.2.1 dL_minute_352 (by decide) (fun c_352 => ?_) (fun c_352 => absurd (by decide) c_352)
    refine lv_iconst (v := 0) X.1 X.2.1 dL_minute_359 (by decide) ?_
    refine lv_iadd X.1 X.2.1 dL_minute_360 ?_
    refine lv_icmp_ne (tgt := 416) X.1 X.2.1 dL_minute_361 (by decide) (fun c_361 => absurd (rfl) c_361) (fun c_361 => ?_)
    refine lv_aload_n X.1 X.2.1 dL_minute_364 rfl (lv_at hl 14 rfl) ?_
    refine lv_iconst (v := 2) X.1 X.2.1 dL_minute_365 (by decide) ?_
    refine lv_bipush (v := 8) X.1 X.2.1 dL_minute_366 (by decide) ?_
    refine lv_iconst (v := 0) X.1 X.2.1 dL_minute_368 (by decide) ?_
    refine lv_iconst (v := 0) X.1 X.2.1 dL_minute_369 (by decide) ?_
    refine kGL (rest := []) (As := [.ref ho, .int 2, .int 8, .int 0, .int 0]) X hP hD hS hl.1 o55.len (q_about l hst G kk (by omega) o55 (8 : Int32) 0 0 ) sl_L_138 ⟨Nat.le_of_ble_eq_true rfl, Nat.le_of_ble_eq_true rfl, rfl, rfl⟩ ⟨by show _ ≤ 60; omega, by show _ ≤ 360; omega⟩ rfl (Nat.le_of_ble_eq_true rfl) dL_minute_370 (fun w56 r56 H locs hΦ a56 hP hD hS => ?_)
    obtain ⟨o56, rfl⟩ := hΦ
    replace a56 := a56.trans a55
    refine top_eq (y := (σ.1 7 + (RUNF σ.1 1 7 - σ.1 7))) ((qa_8 σ1.1).trans (by rw [f1]; exact add_back (σ.1 7) (RUNF σ.1 1 7))) ?_
    refine lv_iload X.1 X.2.1 dL_minute_373 (lv_at hl 5 rfl) ?_
    refine lv_icmp_ne (tgt := 416) X.1 X.2.1 dL_minute_375 (by decide) (fun c_375 => absurd (rfl) c_375) (fun c_375 => ?_)
    refine lv_iload X.1 X.2.1 dL_minute_378 (lv_at hl 1 rfl) ?_
    refine lv_aload_n X.1 X.2.1 dL_minute_380 rfl (lv_at hl 14 rfl) ?_
    refine lv_iconst (v := 3) X.1 X.2.1 dL_minute_381 (by decide) ?_
    refine lv_iload X.1 X.2.1 dL_minute_382 (lv_at hl 12 rfl) ?_
    refine lv_iconst (v := 2) X.1 X.2.1 dL_minute_384 (by decide) ?_
    refine lv_iconst (v := 0) X.1 X.2.1 dL_minute_385 (by decide) ?_
    refine kGL (rest := [.int v15]) (As := [.ref ho, .int 3, .int (nI i), .int 2, .int 0]) X hP hD hS hl.1 o56.len (q_room l hst G kk (by omega) o56 (nI i) (2 : Int32) 0 ) sl_L_138 ⟨Nat.le_of_ble_eq_true rfl, Nat.le_of_ble_eq_true rfl, rfl, rfl⟩ ⟨by show _ ≤ 60; omega, by show _ ≤ 360; omega⟩ rfl (Nat.le_of_ble_eq_true rfl) dL_minute_386 (fun w57 r57 H locs hΦ a57 hP hD hS => ?_)
    obtain ⟨o57, rfl⟩ := hΦ
    replace a57 := a57.trans a56
    refine top_eq (y := (σ1.1 (16 + 8 * i + 2))) (qr_at okA (w := 2) h1i (by decide)) ?_
    have hw := p50
    rw [nI_cl (by omega)] at hw
    unfold WP at hw
    rw [← f1, r3, ← h15] at hw
    suffices J417 : W p l e (rmG 9 188 60 360) s m args below meth c H locs (((((((((((((((((0 + 1) + 1) + 1) + 1) + 1) + 1) + 1) + 1) + 1) + 1) + 1) + 1) + 1) + 1) + 1) + 1) + 1) (((((((((((((((((0 + 6) + 6) + 6) + 6) + 6) + 6) + 6) + 6) + 6) + 6) + 6) + 6) + 6) + 6) + 6) + 6) + 6) Q (F0 m 417 ls [.int 1]) by
      refine lv_icmp_lt (tgt := 406) X.1 X.2.1 dL_minute_389 (by decide) (fun c_389 => ?_) (fun c_389 => ?_)
      · skip
        refine lv_iload X.1 X.2.1 dL_minute_406 (lv_at hl 4 rfl) ?_
        refine lv_iconst (v := 1) X.1 X.2.1 dL_minute_408 (by decide) ?_
        refine lv_icmp_eq (tgt := 416) X.1 X.2.1 dL_minute_409 (by decide) (fun c_409 => absurd c_409 (hw.2 c_389)) (fun c_409 => ?_)
        refine lv_iconst (v := 1) X.1 X.2.1 dL_minute_412 (by decide) ?_
        refine lv_goto (tgt := 417) X.1 X.2.1 dL_minute_413 (by decide) ?_
        exact J417
      · skip
        refine lv_iload X.1 X.2.1 dL_minute_392 (lv_at hl 4 rfl) ?_
        refine lv_if_eq (tgt := 412) X.1 X.2.1 dL_minute_394 (by decide) (fun c_394 => ?_) (fun c_394 => ?_)
        · skip
          refine lv_iconst (v := 1) X.1 X.2.1 dL_minute_412 (by decide) ?_
          refine lv_goto (tgt := 417) X.1 X.2.1 dL_minute_413 (by decide) ?_
          exact J417
        · skip
          refine lv_iload X.1 X.2.1 dL_minute_397 (lv_at hl 4 rfl) ?_
          refine lv_iconst (v := 1) X.1 X.2.1 dL_minute_399 (by decide) ?_
          refine lv_icmp_ne (tgt := 416) X.1 X.2.1 dL_minute_400 (by decide) (fun c_400 => absurd ((hw.1 c_389).resolve_left c_394) c_400) (fun c_400 => ?_)
          refine lv_goto (tgt := 412) X.1 X.2.1 dL_minute_403 (by decide) ?_
          refine lv_iconst (v := 1) X.1 X.2.1 dL_minute_412 (by decide) ?_
          refine lv_goto (tgt := 417) X.1 X.2.1 dL_minute_413 (by decide) ?_
          exact J417
    refine lv_istore (lv' := [(17, .int 1), (16, .int v16), (15, .int v15), (14, .int 1), (13, .int 0), (12, .int r50), (11, .int ((σ.1 7) + (RUNF σ.1 1 7 - σ.1 7))), (10, .int (RUNF σ.1 1 5 - σ.1 5)), (9, .int (σ.1 (16 + 8 * i + 4))), (8, .int (σ.1 (16 + 8 * i + 7))), (7, .int (σ.1 (16 + 8 * i + 5))), (6, .int (σ.1 (16 + 8 * i + 3))), (5, .int 2), (4, .int (nI i)), (3, .int (nI (mF σ.1))), (0, .ref ho), (1, .ref hq), (2, .int (nI N))]) X.1 X.2.1 dL_minute_417 hl (by decide) rfl (fun ls hl => ?_)
    refine lv_iload X.1 X.2.1 dL_minute_419 (lv_at hl 0 rfl) ?_
    refine lv_if_eq (tgt := 486) X.1 X.2.1 dL_minute_421 (by decide) (fun c_421 => absurd c_421 (by decide)) (fun c_421 => ?_)
    refine lv_aload_n X.1 X.2.1 dL_minute_424 rfl (lv_at hl 15 rfl) ?_
    refine lv_bipush (v := 10) X.1 X.2.1 dL_minute_425 (by decide) ?_
    refine lv_iconst (v := 0) X.1 X.2.1 dL_minute_427 (by decide) ?_
    refine lv_iconst (v := 0) X.1 X.2.1 dL_minute_428 (by decide) ?_
    refine lv_iconst (v := 0) X.1 X.2.1 dL_minute_429 (by decide) ?_
    refine kGL (rest := []) (As := [.ref ho, .int 10, .int 0, .int 0, .int 0]) X hP hD hS hl.1 o57.len (q_undo l hst G kk (by omega) o57  0 0 0 (hc1)) sl_L_138 ⟨Nat.le_of_ble_eq_true rfl, Nat.le_of_ble_eq_true rfl, rfl, rfl⟩ ⟨by show _ ≤ 60; omega, by show _ ≤ 360; omega⟩ rfl (Nat.le_of_ble_eq_true rfl) dL_minute_430 (fun w58 r58 H locs hΦ a58 hP hD hS => ?_)
    obtain ⟨o58, rfl⟩ := hΦ
    replace a58 := a58.trans a57
    refine k_goI (k_runS (rest := []) (As := [.int (nI (σ1.2.1 - 1))]) X.1 X.2.1 X.2.2.1 X.2.2.2.1 X.2.2.2.2.1 X.2.2.2.2.2.1 hP hD hS X.2.2.2.2.2.2.1 X.2.2.2.2.2.2.2.1 hl.1 (c_L_thrown l G kk (nI (σ1.2.1 - 1))) sl_L_190 ⟨Nat.le_of_ble_eq_true rfl, Nat.le_of_ble_eq_true rfl, rfl, rfl⟩ [] rfl rfl ⟨by show _ ≤ 60; omega, by show _ ≤ 360; omega⟩ rfl (Nat.le_of_ble_eq_true rfl) dL_minute_433) hP hD hS X.2.2.2.2.2.2.1 [] rfl rfl (fun H locs hP hD hS => ?_)
    replace hP : va_P G vwCl (w58 ++ w52) H := hP
    replace hD : va_D A (w58 ++ w52) := hD
    refine top_eq (y := 0) (thrown_n (by omega)) ?_
    refine lv_if_ne (tgt := 486) X.1 X.2.1 dL_minute_436 (by decide) (fun c_436 => absurd (by decide) c_436) (fun c_436 => ?_)
    refine lv_aload_n X.1 X.2.1 dL_minute_439 rfl (lv_at hl 16 rfl) ?_
    refine lv_bipush (v := 10) X.1 X.2.1 dL_minute_440 (by decide) ?_
    refine lv_iconst (v := 0) X.1 X.2.1 dL_minute_442 (by decide) ?_
    refine lv_iconst (v := 0) X.1 X.2.1 dL_minute_443 (by decide) ?_
    refine lv_iconst (v := 0) X.1 X.2.1 dL_minute_444 (by decide) ?_
    refine kGR (rest := []) (As := [.ref hq, .int 10, .int 0, .int 0, .int 0]) X hP hD hS hl.1 o52.len o58.len (q_undo l hst G kk (by omega) o52  0 0 0 (hc1)) sl_L_138 ⟨Nat.le_of_ble_eq_true rfl, Nat.le_of_ble_eq_true rfl, rfl, rfl⟩ ⟨by show _ ≤ 60; omega, by show _ ≤ 360; omega⟩ rfl (Nat.le_of_ble_eq_true rfl) dL_minute_445 (fun w59 r59 H locs hΦ a59 hP hD hS => ?_)
    obtain ⟨o59, rfl⟩ := hΦ
    replace a59 := a59.trans a52
    refine k_goI (k_runS (rest := []) (As := [.int (nI (σ1.2.1 - 1))]) X.1 X.2.1 X.2.2.1 X.2.2.2.1 X.2.2.2.2.1 X.2.2.2.2.2.1 hP hD hS X.2.2.2.2.2.2.1 X.2.2.2.2.2.2.2.1 hl.1 (c_L_thrown l G kk (nI (σ1.2.1 - 1))) sl_L_190 ⟨Nat.le_of_ble_eq_true rfl, Nat.le_of_ble_eq_true rfl, rfl, rfl⟩ [] rfl rfl ⟨by show _ ≤ 60; omega, by show _ ≤ 360; omega⟩ rfl (Nat.le_of_ble_eq_true rfl) dL_minute_448) hP hD hS X.2.2.2.2.2.2.1 [] rfl rfl (fun H locs hP hD hS => ?_)
    replace hP : va_P G vwCl (w58 ++ w59) H := hP
    replace hD : va_D A (w58 ++ w59) := hD
    refine top_eq (y := 0) (thrown_n (by omega)) ?_
    refine lv_if_ne (tgt := 486) X.1 X.2.1 dL_minute_451 (by decide) (fun c_451 => absurd (by decide) c_451) (fun c_451 => ?_)
    refine lv_aload_n X.1 X.2.1 dL_minute_454 rfl (lv_at hl 15 rfl) ?_
    refine lv_iconst (v := 3) X.1 X.2.1 dL_minute_455 (by decide) ?_
    refine lv_iload X.1 X.2.1 dL_minute_456 (lv_at hl 13 rfl) ?_
    refine lv_iconst (v := 3) X.1 X.2.1 dL_minute_458 (by decide) ?_
    refine lv_iconst (v := 0) X.1 X.2.1 dL_minute_459 (by decide) ?_
    refine kGL (rest := []) (As := [.ref ho, .int 3, .int (nI i), .int 3, .int 0]) X hP hD hS hl.1 o58.len (q_room l hst G kk (by omega) o58 (nI i) (3 : Int32) 0 ) sl_L_138 ⟨Nat.le_of_ble_eq_true rfl, Nat.le_of_ble_eq_true rfl, rfl, rfl⟩ ⟨by show _ ≤ 60; omega, by show _ ≤ 360; omega⟩ rfl (Nat.le_of_ble_eq_true rfl) dL_minute_460 (fun w60 r60 H locs hΦ a60 hP hD hS => ?_)
    obtain ⟨o60, rfl⟩ := hΦ
    replace a60 := a60.trans a58
    refine top_eq (y := (σ.1 (16 + 8 * i + 3))) ((by rw [f2]; exact qr_at ok (w := 3) hi (by decide))) ?_
    refine lv_iload X.1 X.2.1 dL_minute_463 (lv_at hl 11 rfl) ?_
    refine lv_icmp_ne (tgt := 486) X.1 X.2.1 dL_minute_465 (by decide) (fun c_465 => absurd (rfl) c_465) (fun c_465 => ?_)
    refine lv_aload_n X.1 X.2.1 dL_minute_468 rfl (lv_at hl 15 rfl) ?_
    refine lv_iconst (v := 4) X.1 X.2.1 dL_minute_469 (by decide) ?_
    refine lv_iload X.1 X.2.1 dL_minute_470 (lv_at hl 13 rfl) ?_
    refine lv_iconst (v := 0) X.1 X.2.1 dL_minute_472 (by decide) ?_
    refine lv_iconst (v := 0) X.1 X.2.1 dL_minute_473 (by decide) ?_
    refine kGL (rest := []) (As := [.ref ho, .int 4, .int (nI i), .int 0, .int 0]) X hP hD hS hl.1 o60.len (q_does l hst G kk (by omega) o60 (nI i) 0 0 ) sl_L_138 ⟨Nat.le_of_ble_eq_true rfl, Nat.le_of_ble_eq_true rfl, rfl, rfl⟩ ⟨by show _ ≤ 60; omega, by show _ ≤ 360; omega⟩ rfl (Nat.le_of_ble_eq_true rfl) dL_minute_474 (fun w61 r61 H locs hΦ a61 hP hD hS => ?_)
    obtain ⟨o61, rfl⟩ := hΦ
    replace a61 := a61.trans a60
    refine top_eq (y := 2) ((by rw [f2]; exact (qd_at ok hi).trans hd1)) ?_
    refine lv_iload X.1 X.2.1 dL_minute_477 (lv_at hl 12 rfl) ?_
    refine lv_icmp_ne (tgt := 486) X.1 X.2.1 dL_minute_479 (by decide) (fun c_479 => absurd (by decide) c_479) (fun c_479 => ?_)
    refine lv_iconst (v := 1) X.1 X.2.1 dL_minute_482 (by decide) ?_
    refine lv_goto (tgt := 487) X.1 X.2.1 dL_minute_483 (by decide) ?_
    refine W.widen (k := 60) (n := 360) (by omega) (by omega) ?_
    exact FIN _ 1 H locs ls 487 ⟨⟨_, _, rfl, o61, o59⟩, rfl⟩ (ads_app a61 a59) hP hD hS (fun _ => rfl) dL_minute_487
  · skip
    refine kGL (rest := []) (As := [.ref ho, .int 4, .int (nI i), .int 0, .int 0]) X hP hD hS hl.1 o1.len (q_does l hst G kk (by omega) o1 (nI i) 0 0 ) sl_L_138 ⟨Nat.le_of_ble_eq_true rfl, Nat.le_of_ble_eq_true rfl, rfl, rfl⟩ ⟨by show _ ≤ 60; omega, by show _ ≤ 360; omega⟩ rfl (Nat.le_of_ble_eq_true rfl) dL_minute_20 (fun w62 r62 H locs hΦ a62 hP hD hS => ?_)
    obtain ⟨o62, rfl⟩ := hΦ
    replace a62 := a62.trans a1
    refine top_eq (y := 3) ((qd_at ok hi).trans hd1) ?_
    refine lv_istore (lv' := [(5, .int 3), (4, .int (nI i)), (3, .int (nI (mF σ.1))), (0, .ref ho), (1, .ref hq), (2, .int (nI N))]) X.1 X.2.1 dL_minute_23 hl (by decide) rfl (fun ls hl => ?_)
    refine lv_aload_n X.1 X.2.1 dL_minute_25 rfl (lv_at hl 3 rfl) ?_
    refine lv_iconst (v := 3) X.1 X.2.1 dL_minute_26 (by decide) ?_
    refine lv_iload X.1 X.2.1 dL_minute_27 (lv_at hl 1 rfl) ?_
    refine lv_iconst (v := 3) X.1 X.2.1 dL_minute_29 (by decide) ?_
    refine lv_iconst (v := 0) X.1 X.2.1 dL_minute_30 (by decide) ?_
    refine kGL (rest := []) (As := [.ref ho, .int 3, .int (nI i), .int 3, .int 0]) X hP hD hS hl.1 o62.len (q_room l hst G kk (by omega) o62 (nI i) (3 : Int32) 0 ) sl_L_138 ⟨Nat.le_of_ble_eq_true rfl, Nat.le_of_ble_eq_true rfl, rfl, rfl⟩ ⟨by show _ ≤ 60; omega, by show _ ≤ 360; omega⟩ rfl (Nat.le_of_ble_eq_true rfl) dL_minute_31 (fun w63 r63 H locs hΦ a63 hP hD hS => ?_)
    obtain ⟨o63, rfl⟩ := hΦ
    replace a63 := a63.trans a62
    refine top_eq (y := (σ.1 (16 + 8 * i + 3))) (qr_at ok (w := 3) hi (by decide)) ?_
    refine lv_istore (lv' := [(6, .int (σ.1 (16 + 8 * i + 3))), (5, .int 3), (4, .int (nI i)), (3, .int (nI (mF σ.1))), (0, .ref ho), (1, .ref hq), (2, .int (nI N))]) X.1 X.2.1 dL_minute_34 hl (by decide) rfl (fun ls hl => ?_)
    refine lv_aload_n X.1 X.2.1 dL_minute_36 rfl (lv_at hl 4 rfl) ?_
    refine lv_iconst (v := 3) X.1 X.2.1 dL_minute_37 (by decide) ?_
    refine lv_iload X.1 X.2.1 dL_minute_38 (lv_at hl 2 rfl) ?_
    refine lv_iconst (v := 5) X.1 X.2.1 dL_minute_40 (by decide) ?_
    refine lv_iconst (v := 0) X.1 X.2.1 dL_minute_41 (by decide) ?_
    refine kGL (rest := []) (As := [.ref ho, .int 3, .int (nI i), .int 5, .int 0]) X hP hD hS hl.1 o63.len (q_room l hst G kk (by omega) o63 (nI i) (5 : Int32) 0 ) sl_L_138 ⟨Nat.le_of_ble_eq_true rfl, Nat.le_of_ble_eq_true rfl, rfl, rfl⟩ ⟨by show _ ≤ 60; omega, by show _ ≤ 360; omega⟩ rfl (Nat.le_of_ble_eq_true rfl) dL_minute_42 (fun w64 r64 H locs hΦ a64 hP hD hS => ?_)
    obtain ⟨o64, rfl⟩ := hΦ
    replace a64 := a64.trans a63
    refine top_eq (y := (σ.1 (16 + 8 * i + 5))) (qr_at ok (w := 5) hi (by decide)) ?_
    refine lv_istore (lv' := [(7, .int (σ.1 (16 + 8 * i + 5))), (6, .int (σ.1 (16 + 8 * i + 3))), (5, .int 3), (4, .int (nI i)), (3, .int (nI (mF σ.1))), (0, .ref ho), (1, .ref hq), (2, .int (nI N))]) X.1 X.2.1 dL_minute_45 hl (by decide) rfl (fun ls hl => ?_)
    refine lv_aload_n X.1 X.2.1 dL_minute_47 rfl (lv_at hl 5 rfl) ?_
    refine lv_iconst (v := 3) X.1 X.2.1 dL_minute_48 (by decide) ?_
    refine lv_iload X.1 X.2.1 dL_minute_49 (lv_at hl 3 rfl) ?_
    refine lv_bipush (v := 7) X.1 X.2.1 dL_minute_51 (by decide) ?_
    refine lv_iconst (v := 0) X.1 X.2.1 dL_minute_53 (by decide) ?_
    refine kGL (rest := []) (As := [.ref ho, .int 3, .int (nI i), .int 7, .int 0]) X hP hD hS hl.1 o64.len (q_room l hst G kk (by omega) o64 (nI i) (7 : Int32) 0 ) sl_L_138 ⟨Nat.le_of_ble_eq_true rfl, Nat.le_of_ble_eq_true rfl, rfl, rfl⟩ ⟨by show _ ≤ 60; omega, by show _ ≤ 360; omega⟩ rfl (Nat.le_of_ble_eq_true rfl) dL_minute_54 (fun w65 r65 H locs hΦ a65 hP hD hS => ?_)
    obtain ⟨o65, rfl⟩ := hΦ
    replace a65 := a65.trans a64
    refine top_eq (y := (σ.1 (16 + 8 * i + 7))) (qr_at ok (w := 7) hi (by decide)) ?_
    refine lv_istore (lv' := [(8, .int (σ.1 (16 + 8 * i + 7))), (7, .int (σ.1 (16 + 8 * i + 5))), (6, .int (σ.1 (16 + 8 * i + 3))), (5, .int 3), (4, .int (nI i)), (3, .int (nI (mF σ.1))), (0, .ref ho), (1, .ref hq), (2, .int (nI N))]) X.1 X.2.1 dL_minute_57 hl (by decide) rfl (fun ls hl => ?_)
    refine lv_aload_n X.1 X.2.1 dL_minute_59 rfl (lv_at hl 6 rfl) ?_
    refine lv_iconst (v := 3) X.1 X.2.1 dL_minute_60 (by decide) ?_
    refine lv_iload X.1 X.2.1 dL_minute_61 (lv_at hl 4 rfl) ?_
    refine lv_iconst (v := 4) X.1 X.2.1 dL_minute_63 (by decide) ?_
    refine lv_iconst (v := 0) X.1 X.2.1 dL_minute_64 (by decide) ?_
    refine kGL (rest := []) (As := [.ref ho, .int 3, .int (nI i), .int 4, .int 0]) X hP hD hS hl.1 o65.len (q_room l hst G kk (by omega) o65 (nI i) (4 : Int32) 0 ) sl_L_138 ⟨Nat.le_of_ble_eq_true rfl, Nat.le_of_ble_eq_true rfl, rfl, rfl⟩ ⟨by show _ ≤ 60; omega, by show _ ≤ 360; omega⟩ rfl (Nat.le_of_ble_eq_true rfl) dL_minute_65 (fun w66 r66 H locs hΦ a66 hP hD hS => ?_)
    obtain ⟨o66, rfl⟩ := hΦ
    replace a66 := a66.trans a65
    refine top_eq (y := (σ.1 (16 + 8 * i + 4))) (qr_at ok (w := 4) hi (by decide)) ?_
    refine lv_istore (lv' := [(9, .int (σ.1 (16 + 8 * i + 4))), (8, .int (σ.1 (16 + 8 * i + 7))), (7, .int (σ.1 (16 + 8 * i + 5))), (6, .int (σ.1 (16 + 8 * i + 3))), (5, .int 3), (4, .int (nI i)), (3, .int (nI (mF σ.1))), (0, .ref ho), (1, .ref hq), (2, .int (nI N))]) X.1 X.2.1 dL_minute_68 hl (by decide) rfl (fun ls hl => ?_)
    refine lv_aload_n X.1 X.2.1 dL_minute_70 rfl (lv_at hl 7 rfl) ?_
    refine lv_bipush (v := 12) X.1 X.2.1 dL_minute_71 (by decide) ?_
    refine lv_iconst (v := 1) X.1 X.2.1 dL_minute_73 (by decide) ?_
    refine lv_iconst (v := 0) X.1 X.2.1 dL_minute_74 (by decide) ?_
    refine lv_iconst (v := 0) X.1 X.2.1 dL_minute_75 (by decide) ?_
    refine kGL (rest := []) (As := [.ref ho, .int 12, .int 1, .int 0, .int 0]) X hP hD hS hl.1 o66.len (q_coming l hst G kk (by omega) o66 (1 : Int32) (0 : Int32) 0 (rfl) (Or.inl rfl)) sl_L_138 ⟨Nat.le_of_ble_eq_true rfl, Nat.le_of_ble_eq_true rfl, rfl, rfl⟩ ⟨by show _ ≤ 60; omega, by show _ ≤ 360; omega⟩ rfl (Nat.le_of_ble_eq_true rfl) dL_minute_76 (fun w67 r67 H locs hΦ a67 hP hD hS => ?_)
    obtain ⟨o67, rfl⟩ := hΦ
    replace a67 := a67.trans a66
    refine top_eq (y := (RUNF σ.1 1 5 - σ.1 5)) (if_pos rfl) ?_
    refine lv_istore (lv' := [(10, .int (RUNF σ.1 1 5 - σ.1 5)), (9, .int (σ.1 (16 + 8 * i + 4))), (8, .int (σ.1 (16 + 8 * i + 7))), (7, .int (σ.1 (16 + 8 * i + 5))), (6, .int (σ.1 (16 + 8 * i + 3))), (5, .int 3), (4, .int (nI i)), (3, .int (nI (mF σ.1))), (0, .ref ho), (1, .ref hq), (2, .int (nI N))]) X.1 X.2.1 dL_minute_79 hl (by decide) rfl (fun ls hl => ?_)
    refine lv_aload_n X.1 X.2.1 dL_minute_81 rfl (lv_at hl 8 rfl) ?_
    refine lv_iconst (v := 2) X.1 X.2.1 dL_minute_82 (by decide) ?_
    refine lv_bipush (v := 8) X.1 X.2.1 dL_minute_83 (by decide) ?_
    refine lv_iconst (v := 0) X.1 X.2.1 dL_minute_85 (by decide) ?_
    refine lv_iconst (v := 0) X.1 X.2.1 dL_minute_86 (by decide) ?_
    refine kGL (rest := []) (As := [.ref ho, .int 2, .int 8, .int 0, .int 0]) X hP hD hS hl.1 o67.len (q_about l hst G kk (by omega) o67 (8 : Int32) 0 0 ) sl_L_138 ⟨Nat.le_of_ble_eq_true rfl, Nat.le_of_ble_eq_true rfl, rfl, rfl⟩ ⟨by show _ ≤ 60; omega, by show _ ≤ 360; omega⟩ rfl (Nat.le_of_ble_eq_true rfl) dL_minute_87 (fun w68 r68 H locs hΦ a68 hP hD hS => ?_)
    obtain ⟨o68, rfl⟩ := hΦ
    replace a68 := a68.trans a67
    refine top_eq (y := (σ.1 7)) (qa_8 σ.1) ?_
    refine lv_aload_n X.1 X.2.1 dL_minute_90 rfl (lv_at hl 8 rfl) ?_
    refine lv_bipush (v := 12) X.1 X.2.1 dL_minute_91 (by decide) ?_
    refine lv_iconst (v := 1) X.1 X.2.1 dL_minute_93 (by decide) ?_
    refine lv_iconst (v := 3) X.1 X.2.1 dL_minute_94 (by decide) ?_
    refine lv_iconst (v := 0) X.1 X.2.1 dL_minute_95 (by decide) ?_
    refine kGL (rest := [.int (σ.1 7)]) (As := [.ref ho, .int 12, .int 1, .int 3, .int 0]) X hP hD hS hl.1 o68.len (q_coming l hst G kk (by omega) o68 (1 : Int32) (3 : Int32) 0 (rfl) (Or.inr rfl)) sl_L_138 ⟨Nat.le_of_ble_eq_true rfl, Nat.le_of_ble_eq_true rfl, rfl, rfl⟩ ⟨by show _ ≤ 60; omega, by show _ ≤ 360; omega⟩ rfl (Nat.le_of_ble_eq_true rfl) dL_minute_96 (fun w69 r69 H locs hΦ a69 hP hD hS => ?_)
    obtain ⟨o69, rfl⟩ := hΦ
    replace a69 := a69.trans a68
    refine top_eq (y := (RUNF σ.1 1 7 - σ.1 7)) (if_neg (by decide)) ?_
    refine lv_iadd X.1 X.2.1 dL_minute_99 ?_
    refine lv_istore (lv' := [(11, .int ((σ.1 7) + (RUNF σ.1 1 7 - σ.1 7))), (10, .int (RUNF σ.1 1 5 - σ.1 5)), (9, .int (σ.1 (16 + 8 * i + 4))), (8, .int (σ.1 (16 + 8 * i + 7))), (7, .int (σ.1 (16 + 8 * i + 5))), (6, .int (σ.1 (16 + 8 * i + 3))), (5, .int 3), (4, .int (nI i)), (3, .int (nI (mF σ.1))), (0, .ref ho), (1, .ref hq), (2, .int (nI N))]) X.1 X.2.1 dL_minute_100 hl (by decide) rfl (fun ls hl => ?_)
    refine lv_aload_n X.1 X.2.1 dL_minute_102 rfl (lv_at hl 9 rfl) ?_
    refine lv_bipush (v := 11) X.1 X.2.1 dL_minute_103 (by decide) ?_
    refine lv_iload X.1 X.2.1 dL_minute_105 (lv_at hl 7 rfl) ?_
    refine lv_iconst (v := 0) X.1 X.2.1 dL_minute_107 (by decide) ?_
    refine lv_iconst (v := 0) X.1 X.2.1 dL_minute_108 (by decide) ?_
    refine kGL (rest := []) (As := [.ref ho, .int 11, .int (nI i), .int 0, .int 0]) X hP hD hS hl.1 o69.len (q_warm l hst G kk (by omega) o69 (nI i) 0 0 (ir_yes ok hi)) sl_L_138 ⟨Nat.le_of_ble_eq_true rfl, Nat.le_of_ble_eq_true rfl, rfl, rfl⟩ ⟨by show _ ≤ 60; omega, by show _ ≤ 360; omega⟩ rfl (Nat.le_of_ble_eq_true rfl) dL_minute_109 (fun w70 r70 H locs hΦ a70 hP hD hS => ?_)
    obtain ⟨o70, p70⟩ := hΦ
    replace a70 := a70.trans a69
    refine lv_istore (lv' := [(12, .int r70), (11, .int ((σ.1 7) + (RUNF σ.1 1 7 - σ.1 7))), (10, .int (RUNF σ.1 1 5 - σ.1 5)), (9, .int (σ.1 (16 + 8 * i + 4))), (8, .int (σ.1 (16 + 8 * i + 7))), (7, .int (σ.1 (16 + 8 * i + 5))), (6, .int (σ.1 (16 + 8 * i + 3))), (5, .int 3), (4, .int (nI i)), (3, .int (nI (mF σ.1))), (0, .ref ho), (1, .ref hq), (2, .int (nI N))]) X.1 X.2.1 dL_minute_112 hl (by decide) rfl (fun ls hl => ?_)
    refine lv_iload X.1 X.2.1 dL_minute_114 (lv_at hl 7 rfl) ?_
    refine lv_iconst (v := 1) X.1 X.2.1 dL_minute_116 (by decide) ?_
    refine lv_icmp_eq (tgt := 126) X.1 X.2.1 dL_minute_117 (by decide) (fun c_117 => absurd c_117 (by decide)) (fun c_117 => ?_)
    refine lv_iload X.1 X.2.1 dL_minute_120 (lv_at hl 7 rfl) ?_
    refine lv_iconst (v := 3) X.1 X.2.1 dL_minute_122 (by decide) ?_
    refine lv_icmp_ne (tgt := 130) X.1 X.2.1 dL_minute_123 (by decide) (fun c_123 => absurd (by decide) c_123) (fun c_123 => ?_)
    refine lv_iconst (v := 1) X.1 X.2.1 dL_minute_126 (by decide) ?_
    refine lv_goto (tgt := 131) X.1 X.2.1 dL_minute_127 (by decide) ?_
    refine lv_istore (lv' := [(13, .int 1), (12, .int r70), (11, .int ((σ.1 7) + (RUNF σ.1 1 7 - σ.1 7))), (10, .int (RUNF σ.1 1 5 - σ.1 5)), (9, .int (σ.1 (16 + 8 * i + 4))), (8, .int (σ.1 (16 + 8 * i + 7))), (7, .int (σ.1 (16 + 8 * i + 5))), (6, .int (σ.1 (16 + 8 * i + 3))), (5, .int 3), (4, .int (nI i)), (3, .int (nI (mF σ.1))), (0, .ref ho), (1, .ref hq), (2, .int (nI N))]) X.1 X.2.1 dL_minute_131 hl (by decide) rfl (fun ls hl => ?_)
    refine lv_iload X.1 X.2.1 dL_minute_133 (lv_at hl 8 rfl) ?_
    refine lv_if_eq (tgt := 150) X.1 X.2.1 dL_minute_135 (by decide) (fun c_135 => absurd c_135 (by decide)) (fun c_135 => ?_)
    refine lv_iload X.1 X.2.1 dL_minute_138 (lv_at hl 8 rfl) ?_
    refine lv_iconst (v := 2) X.1 X.2.1 dL_minute_140 (by decide) ?_
    refine lv_icmp_eq (tgt := 150) X.1 X.2.1 dL_minute_141 (by decide) (fun c_141 => absurd c_141 (by decide)) (fun c_141 => ?_)
    refine lv_iload X.1 X.2.1 dL_minute_144 (lv_at hl 8 rfl) ?_
    refine lv_iconst (v := 5) X.1 X.2.1 dL_minute_146 (by decide) ?_
    refine lv_icmp_ne (tgt := 154) X.1 X.2.1 dL_minute_147 (by decide) (fun c_147 => ?_) (fun c_147 => absurd c_147 (by decide))
    refine lv_iconst (v := 0) X.1 X.2.1 dL_minute_154 (by decide) ?_
    refine lv_istore (lv' := [(14, .int 0), (13, .int 1), (12, .int r70), (11, .int ((σ.1 7) + (RUNF σ.1 1 7 - σ.1 7))), (10, .int (RUNF σ.1 1 5 - σ.1 5)), (9, .int (σ.1 (16 + 8 * i + 4))), (8, .int (σ.1 (16 + 8 * i + 7))), (7, .int (σ.1 (16 + 8 * i + 5))), (6, .int (σ.1 (16 + 8 * i + 3))), (5, .int 3), (4, .int (nI i)), (3, .int (nI (mF σ.1))), (0, .ref ho), (1, .ref hq), (2, .int (nI N))]) X.1 X.2.1 dL_minute_155 hl (by decide) rfl (fun ls hl => ?_)
    refine lv_iload X.1 X.2.1 dL_minute_157 (lv_at hl 8 rfl) ?_
    refine lv_iload X.1 X.2.1 dL_minute_159 (lv_at hl 1 rfl) ?_
    refine lv_if_eq (tgt := 175) X.1 X.2.1 dL_minute_161 (by decide) (fun c_161 => absurd c_161 (by decide)) (fun c_161 => ?_)
    refine lv_iload X.1 X.2.1 dL_minute_164 (lv_at hl 7 rfl) ?_
    refine lv_bipush (v := 20) X.1 X.2.1 dL_minute_166 (by decide) ?_
    refine lv_idiv X.1 X.2.1 dL_minute_168 (by decide) ?_
    refine lv_bipush (v := 8) X.1 X.2.1 dL_minute_169 (by decide) ?_
    refine lv_isub X.1 X.2.1 dL_minute_171 ?_
    refine lv_goto (tgt := 186) X.1 X.2.1 dL_minute_172 (by decide) ?_
    refine lv_iadd X.1 X.2.1 dL_minute_186 ?_
    refine lv_iconst (v := 4) X.1 X.2.1 dL_minute_187 (by decide) ?_
    refine lv_iload X.1 X.2.1 dL_minute_188 (lv_at hl 5 rfl) ?_
    refine lv_imul X.1 X.2.1 dL_minute_190 ?_
    refine lv_iadd X.1 X.2.1 dL_minute_191 ?_
    refine lv_istore (lv' := [(15, .int (((σ.1 (16 + 8 * i + 3)) + (((σ.1 (16 + 8 * i + 5)) / 20) - 8)) + (4 * (σ.1 (16 + 8 * i + 4))))), (14, .int 0), (13, .int 1), (12, .int r70), (11, .int ((σ.1 7) + (RUNF σ.1 1 7 - σ.1 7))), (10, .int (RUNF σ.1 1 5 - σ.1 5)), (9, .int (σ.1 (16 + 8 * i + 4))), (8, .int (σ.1 (16 + 8 * i + 7))), (7, .int (σ.1 (16 + 8 * i + 5))), (6, .int (σ.1 (16 + 8 * i + 3))), (5, .int 3), (4, .int (nI i)), (3, .int (nI (mF σ.1))), (0, .ref ho), (1, .ref hq), (2, .int (nI N))]) X.1 X.2.1 dL_minute_192 hl (by decide) rfl (fun ls hl => ?_)
    refine lv_iload X.1 X.2.1 dL_minute_194 (lv_at hl 0 rfl) ?_
    refine lv_sipush (v := 400) X.1 X.2.1 dL_minute_196 (by decide) ?_
    have eT : sX8_clamp ((((σ.1 (16 + 8 * i + 3)) + (((σ.1 (16 + 8 * i + 5)) / 20) - 8)) + (4 * (σ.1 (16 + 8 * i + 4))))) (-400) 400 = Tn σ.1 (JB σ.1 i) i := by rw [hd1]; exact tn_val (x := 3) hz
    suffices J15 : ∀ v15 : Int32, v15 = Tn σ.1 (JB σ.1 i) i → W p l e (rmG 9 188 60 360) s m args below meth c H locs ((((((((((0 + 1) + 1) + 1) + 1) + 1) + 1) + 1) + 1) + 1) + 1) ((((((((((0 + 6) + 6) + 6) + 6) + 6) + 6) + 6) + 6) + 6) + 6) Q (F0 m 224 ls [.int v15]) by
      refine lv_icmp_le (tgt := 208) X.1 X.2.1 dL_minute_199 (by decide) (fun c_199 => ?_) (fun c_199 => ?_)
      · skip
        refine lv_iload X.1 X.2.1 dL_minute_208 (lv_at hl 0 rfl) ?_
        refine lv_sipush (v := (-400)) X.1 X.2.1 dL_minute_210 (by decide) ?_
        refine lv_icmp_ge (tgt := 222) X.1 X.2.1 dL_minute_213 (by decide) (fun c_213 => ?_) (fun c_213 => ?_)
        · skip
          refine lv_iload X.1 X.2.1 dL_minute_222 (lv_at hl 0 rfl) ?_
          exact J15 _ ((cl_mid c_199 c_213).trans eT)
        · skip
          refine lv_sipush (v := (-400)) X.1 X.2.1 dL_minute_216 (by decide) ?_
          refine lv_goto (tgt := 224) X.1 X.2.1 dL_minute_219 (by decide) ?_
          exact J15 _ ((cl_lo c_213).trans eT)
      · skip
        refine lv_sipush (v := 400) X.1 X.2.1 dL_minute_202 (by decide) ?_
        refine lv_goto (tgt := 224) X.1 X.2.1 dL_minute_205 (by decide) ?_
        exact J15 _ ((cl_hi c_199).trans eT)
    intro v15 h15
    refine lv_istore (lv' := [(15, .int v15), (14, .int 0), (13, .int 1), (12, .int r70), (11, .int ((σ.1 7) + (RUNF σ.1 1 7 - σ.1 7))), (10, .int (RUNF σ.1 1 5 - σ.1 5)), (9, .int (σ.1 (16 + 8 * i + 4))), (8, .int (σ.1 (16 + 8 * i + 7))), (7, .int (σ.1 (16 + 8 * i + 5))), (6, .int (σ.1 (16 + 8 * i + 3))), (5, .int 3), (4, .int (nI i)), (3, .int (nI (mF σ.1))), (0, .ref ho), (1, .ref hq), (2, .int (nI N))]) X.1 X.2.1 dL_minute_224 hl (by decide) rfl (fun ls hl => ?_)
    refine lv_iload X.1 X.2.1 dL_minute_226 (lv_at hl 1 rfl) ?_
    refine lv_if_eq (tgt := 250) X.1 X.2.1 dL_minute_228 (by decide) (fun c_228 => ?_) (fun c_228 => absurd (by decide) c_228)
    refine lv_iload X.1 X.2.1 dL_minute_250 (lv_at hl 8 rfl) ?_
    refine lv_iload X.1 X.2.1 dL_minute_252 (lv_at hl 2 rfl) ?_
    refine lv_if_eq (tgt := 261) X.1 X.2.1 dL_minute_254 (by decide) (fun c_254 => absurd c_254 (by decide)) (fun c_254 => ?_)
    refine lv_iconst (v := 1) X.1 X.2.1 dL_minute_257 (by decide) ?_
    refine lv_goto (tgt := 262) X.1 X.2.1 dL_minute_258 (by decide) ?_
    refine lv_iadd X.1 X.2.1 dL_minute_262 ?_
    refine lv_iconst (v := 2) X.1 X.2.1 dL_minute_263 (by decide) ?_
    refine lv_iload X.1 X.2.1 dL_minute_264 (lv_at hl 6 rfl) ?_
    refine lv_imul X.1 X.2.1 dL_minute_266 ?_
    refine lv_iadd X.1 X.2.1 dL_minute_267 ?_
    obtain ⟨v16, h16e⟩ : ∃ v16, v16 = (((σ.1 (16 + 8 * i + 5)) + 1) + (2 * (σ.1 (16 + 8 * i + 4)))) := ⟨_, rfl⟩
    have h16 : (if v16 ≤ 100 then v16 else 100) = Fn σ.1 (JB σ.1 i) i := by rw [h16e, hd1]; exact fn_un hz hf0 hf1 (by decide) (by decide)
    refine top_eq (y := v16) (h16e.symm) ?_
    refine lv_istore (lv' := [(16, .int v16), (15, .int v15), (14, .int 0), (13, .int 1), (12, .int r70), (11, .int ((σ.1 7) + (RUNF σ.1 1 7 - σ.1 7))), (10, .int (RUNF σ.1 1 5 - σ.1 5)), (9, .int (σ.1 (16 + 8 * i + 4))), (8, .int (σ.1 (16 + 8 * i + 7))), (7, .int (σ.1 (16 + 8 * i + 5))), (6, .int (σ.1 (16 + 8 * i + 3))), (5, .int 3), (4, .int (nI i)), (3, .int (nI (mF σ.1))), (0, .ref ho), (1, .ref hq), (2, .int (nI N))]) X.1 X.2.1 dL_minute_268 hl (by decide) rfl (fun ls hl => ?_)
    refine lv_aload_n X.1 X.2.1 dL_minute_270 rfl (lv_at hl 14 rfl) ?_
    refine lv_bipush (v := 8) X.1 X.2.1 dL_minute_271 (by decide) ?_
    refine lv_iconst (v := 1) X.1 X.2.1 dL_minute_273 (by decide) ?_
    refine lv_iconst (v := 0) X.1 X.2.1 dL_minute_274 (by decide) ?_
    refine lv_iconst (v := 0) X.1 X.2.1 dL_minute_275 (by decide) ?_
    refine kGL (rest := []) (As := [.ref ho, .int 8, .int 1, .int 0, .int 0]) X hP hD hS hl.1 o70.len (q_run l hst G kk (by omega) o70 (1 : Int32) 0 0 (by decide)) sl_L_138 ⟨Nat.le_of_ble_eq_true rfl, Nat.le_of_ble_eq_true rfl, rfl, rfl⟩ ⟨by show _ ≤ 60; omega, by show _ ≤ 360; omega⟩ rfl (Nat.le_of_ble_eq_true rfl) dL_minute_276 (fun w71 r71 H locs hΦ a71 hP hD hS => ?_)
    obtain ⟨o71, rfl⟩ := hΦ
    replace a71 := a71.trans a70
    replace o71 : OB kk (B + 60) σ1 ho w71 := by rw [hσ]; exact o71
    have okA := o71.row.1
    have h1i : i < mF σ1.1 := by rw [m1]; exact hi
    refine top_eq (y := (RUNF σ.1 1 5 - σ.1 5)) (by rw [show (1 : Int32).toNatClampNeg = 1 from rfl]) ?_
    refine lv_iload X.1 X.2.1 dL_minute_279 (lv_at hl 6 rfl) ?_
    refine lv_icmp_ne (tgt := 416) X.1 X.2.1 dL_minute_281 (by decide) (fun c_281 => absurd (rfl) c_281) (fun c_281 => ?_)
    refine lv_aload_n X.1 X.2.1 dL_minute_284 rfl (lv_at hl 15 rfl) ?_
    refine lv_bipush (v := 8) X.1 X.2.1 dL_minute_285 (by decide) ?_
    refine lv_iconst (v := 1) X.1 X.2.1 dL_minute_287 (by decide) ?_
    refine lv_iconst (v := 0) X.1 X.2.1 dL_minute_288 (by decide) ?_
    refine lv_iconst (v := 0) X.1 X.2.1 dL_minute_289 (by decide) ?_
    refine kGR (rest := []) (As := [.ref hq, .int 8, .int 1, .int 0, .int 0]) X hP hD hS hl.1 ob.len o71.len (q_run l hst G kk (by omega) ob (1 : Int32) 0 0 (by decide)) sl_L_138 ⟨Nat.le_of_ble_eq_true rfl, Nat.le_of_ble_eq_true rfl, rfl, rfl⟩ ⟨by show _ ≤ 60; omega, by show _ ≤ 360; omega⟩ rfl (Nat.le_of_ble_eq_true rfl) dL_minute_290 (fun w72 r72 H locs hΦ a72 hP hD hS => ?_)
    obtain ⟨o72, rfl⟩ := hΦ
    replace a72 := a72.trans b0
    replace o72 : OB kk (B + 60) σ1 hq w72 := by rw [hσ]; exact o72
    refine top_eq (y := (RUNF σ.1 1 5 - σ.1 5)) (by rw [show (1 : Int32).toNatClampNeg = 1 from rfl]) ?_
    refine lv_iload X.1 X.2.1 dL_minute_293 (lv_at hl 6 rfl) ?_
    refine lv_icmp_ne (tgt := 416) X.1 X.2.1 dL_minute_295 (by decide) (fun c_295 => absurd (rfl) c_295) (fun c_295 => ?_)
    refine lv_aload_n X.1 X.2.1 dL_minute_298 rfl (lv_at hl 14 rfl) ?_
    refine lv_iconst (v := 3) X.1 X.2.1 dL_minute_299 (by decide) ?_
    refine lv_iload X.1 X.2.1 dL_minute_300 (lv_at hl 12 rfl) ?_
    refine lv_iconst (v := 3) X.1 X.2.1 dL_minute_302 (by decide) ?_
    refine lv_iconst (v := 0) X.1 X.2.1 dL_minute_303 (by decide) ?_
    refine kGL (rest := []) (As := [.ref ho, .int 3, .int (nI i), .int 3, .int 0]) X hP hD hS hl.1 o71.len (q_room l hst G kk (by omega) o71 (nI i) (3 : Int32) 0 ) sl_L_138 ⟨Nat.le_of_ble_eq_true rfl, Nat.le_of_ble_eq_true rfl, rfl, rfl⟩ ⟨by show _ ≤ 60; omega, by show _ ≤ 360; omega⟩ rfl (Nat.le_of_ble_eq_true rfl) dL_minute_304 (fun w73 r73 H locs hΦ a73 hP hD hS => ?_)
    obtain ⟨o73, rfl⟩ := hΦ
    replace a73 := a73.trans a71
    refine top_eq (y := (Tn σ.1 (JB σ.1 i) i)) ((qr_at okA (w := 3) h1i (by decide)).trans r3) ?_
    refine lv_iload X.1 X.2.1 dL_minute_307 (lv_at hl 1 rfl) ?_
    refine lv_icmp_ne (tgt := 416) X.1 X.2.1 dL_minute_309 (by decide) (fun c_309 => absurd (h15.symm) c_309) (fun c_309 => ?_)
    refine lv_aload_n X.1 X.2.1 dL_minute_312 rfl (lv_at hl 14 rfl) ?_
    refine lv_iconst (v := 3) X.1 X.2.1 dL_minute_313 (by decide) ?_
    refine lv_iload X.1 X.2.1 dL_minute_314 (lv_at hl 12 rfl) ?_
    refine lv_iconst (v := 5) X.1 X.2.1 dL_minute_316 (by decide) ?_
    refine lv_iconst (v := 0) X.1 X.2.1 dL_minute_317 (by decide) ?_
    refine kGL (rest := []) (As := [.ref ho, .int 3, .int (nI i), .int 5, .int 0]) X hP hD hS hl.1 o73.len (q_room l hst G kk (by omega) o73 (nI i) (5 : Int32) 0 ) sl_L_138 ⟨Nat.le_of_ble_eq_true rfl, Nat.le_of_ble_eq_true rfl, rfl, rfl⟩ ⟨by show _ ≤ 60; omega, by show _ ≤ 360; omega⟩ rfl (Nat.le_of_ble_eq_true rfl) dL_minute_318 (fun w74 r74 H locs hΦ a74 hP hD hS => ?_)
    obtain ⟨o74, rfl⟩ := hΦ
    replace a74 := a74.trans a73
    refine top_eq (y := (Fn σ.1 (JB σ.1 i) i)) ((qr_at okA (w := 5) h1i (by decide)).trans r5) ?_
    refine lv_iload X.1 X.2.1 dL_minute_321 (lv_at hl 0 rfl) ?_
    refine lv_bipush (v := 100) X.1 X.2.1 dL_minute_323 (by decide) ?_
    suffices J338 : W p l e (rmG 9 188 60 360) s m args below meth c H locs ((((((((((((((0 + 1) + 1) + 1) + 1) + 1) + 1) + 1) + 1) + 1) + 1) + 1) + 1) + 1) + 1) ((((((((((((((0 + 6) + 6) + 6) + 6) + 6) + 6) + 6) + 6) + 6) + 6) + 6) + 6) + 6) + 6) Q (F0 m 338 ls []) by
      refine lv_icmp_le (tgt := 333) X.1 X.2.1 dL_minute_325 (by decide) (fun c_325 => ?_) (fun c_325 => ?_)
      · skip
        refine lv_iload X.1 X.2.1 dL_minute_333 (lv_at hl 0 rfl) ?_
        refine lv_icmp_ne (tgt := 416) X.1 X.2.1 dL_minute_335 (by decide) (fun c_335 => absurd ((by rw [if_pos c_325] at h16; exact h16.symm)) c_335) (fun c_335 => ?_)
        exact J338
      · skip
        refine lv_bipush (v := 100) X.1 X.2.1 dL_minute_328 (by decide) ?_
        refine lv_goto (tgt := 335) X.1 X.2.1 dL_minute_330 (by decide) ?_
        refine lv_icmp_ne (tgt := 416) X.1 X.2.1 dL_minute_335 (by decide) (fun c_335 => absurd ((by rw [if_neg c_325] at h16; exact h16.symm)) c_335) (fun c_335 => ?_)
        exact J338
    refine lv_aload_n X.1 X.2.1 dL_minute_338 rfl (lv_at hl 14 rfl) ?_
    refine lv_iconst (v := 3) X.1 X.2.1 dL_minute_339 (by decide) ?_
    refine lv_iload X.1 X.2.1 dL_minute_340 (lv_at hl 12 rfl) ?_
    refine lv_bipush (v := 7) X.1 X.2.1 dL_minute_342 (by decide) ?_
    refine lv_iconst (v := 0) X.1 X.2.1 dL_minute_344 (by decide) ?_
    refine kGL (rest := []) (As := [.ref ho, .int 3, .int (nI i), .int 7, .int 0]) X hP hD hS hl.1 o74.len (q_room l hst G kk (by omega) o74 (nI i) (7 : Int32) 0 ) sl_L_138 ⟨Nat.le_of_ble_eq_true rfl, Nat.le_of_ble_eq_true rfl, rfl, rfl⟩ ⟨by show _ ≤ 60; omega, by show _ ≤ 360; omega⟩ rfl (Nat.le_of_ble_eq_true rfl) dL_minute_345 (fun w75 r75 H locs hΦ a75 hP hD hS => ?_)
    obtain ⟨o75, rfl⟩ := hΦ
    replace a75 := a75.trans a74
    refine top_eq (y := (σ.1 (16 + 8 * i + 7) + 1)) (((qr_at okA (w := 7) h1i (by decide)).trans r7).trans (by rw [hd1]; rfl)) ?_
    refine lv_iload X.1 X.2.1 dL_minute_348 (lv_at hl 8 rfl) ?_
    refine lv_iload X.1 X.2.1 dL_minute_350 (lv_at hl 3 rfl) ?_
    refine lv_if_eq (tgt := 359) X.1 X.2.1 dL_minute_352 (by decide) (fun c_352 => absurd c_352 (by decide)) (fun c_352 => ?_)
    refine lv_iconst (v := 1) X.1 X.2.1 dL_minute_355 (by decide) ?_
    refine lv_goto (tgt := 360) X.1 X.2.1 dL_minute_356 (by decide) ?_
    refine lv_iadd X.1 X.2.1 dL_minute_360 ?_
    refine lv_icmp_ne (tgt := 416) X.1 X.2.1 dL_minute_361 (by decide) (fun c_361 => absurd (rfl) c_361) (fun c_361 => ?_)
    refine lv_aload_n X.1 X.2.1 dL_minute_364 rfl (lv_at hl 14 rfl) ?_
    refine lv_iconst (v := 2) X.1 X.2.1 dL_minute_365 (by decide) ?_
    refine lv_bipush (v := 8) X.1 X.2.1 dL_minute_366 (by decide) ?_
    refine lv_iconst (v := 0) X.1 X.2.1 dL_minute_368 (by decide) ?_
    refine lv_iconst (v := 0) X.1 X.2.1 dL_minute_369 (by decide) ?_
    refine kGL (rest := []) (As := [.ref ho, .int 2, .int 8, .int 0, .int 0]) X hP hD hS hl.1 o75.len (q_about l hst G kk (by omega) o75 (8 : Int32) 0 0 ) sl_L_138 ⟨Nat.le_of_ble_eq_true rfl, Nat.le_of_ble_eq_true rfl, rfl, rfl⟩ ⟨by show _ ≤ 60; omega, by show _ ≤ 360; omega⟩ rfl (Nat.le_of_ble_eq_true rfl) dL_minute_370 (fun w76 r76 H locs hΦ a76 hP hD hS => ?_)
    obtain ⟨o76, rfl⟩ := hΦ
    replace a76 := a76.trans a75
    refine top_eq (y := (σ.1 7 + (RUNF σ.1 1 7 - σ.1 7))) ((qa_8 σ1.1).trans (by rw [f1]; exact add_back (σ.1 7) (RUNF σ.1 1 7))) ?_
    refine lv_iload X.1 X.2.1 dL_minute_373 (lv_at hl 5 rfl) ?_
    refine lv_icmp_ne (tgt := 416) X.1 X.2.1 dL_minute_375 (by decide) (fun c_375 => absurd (rfl) c_375) (fun c_375 => ?_)
    refine lv_iload X.1 X.2.1 dL_minute_378 (lv_at hl 1 rfl) ?_
    refine lv_aload_n X.1 X.2.1 dL_minute_380 rfl (lv_at hl 14 rfl) ?_
    refine lv_iconst (v := 3) X.1 X.2.1 dL_minute_381 (by decide) ?_
    refine lv_iload X.1 X.2.1 dL_minute_382 (lv_at hl 12 rfl) ?_
    refine lv_iconst (v := 2) X.1 X.2.1 dL_minute_384 (by decide) ?_
    refine lv_iconst (v := 0) X.1 X.2.1 dL_minute_385 (by decide) ?_
    refine kGL (rest := [.int v15]) (As := [.ref ho, .int 3, .int (nI i), .int 2, .int 0]) X hP hD hS hl.1 o76.len (q_room l hst G kk (by omega) o76 (nI i) (2 : Int32) 0 ) sl_L_138 ⟨Nat.le_of_ble_eq_true rfl, Nat.le_of_ble_eq_true rfl, rfl, rfl⟩ ⟨by show _ ≤ 60; omega, by show _ ≤ 360; omega⟩ rfl (Nat.le_of_ble_eq_true rfl) dL_minute_386 (fun w77 r77 H locs hΦ a77 hP hD hS => ?_)
    obtain ⟨o77, rfl⟩ := hΦ
    replace a77 := a77.trans a76
    refine top_eq (y := (σ1.1 (16 + 8 * i + 2))) (qr_at okA (w := 2) h1i (by decide)) ?_
    have hw := p70
    rw [nI_cl (by omega)] at hw
    unfold WP at hw
    rw [← f1, r3, ← h15] at hw
    suffices J417 : W p l e (rmG 9 188 60 360) s m args below meth c H locs (((((((((((((((((0 + 1) + 1) + 1) + 1) + 1) + 1) + 1) + 1) + 1) + 1) + 1) + 1) + 1) + 1) + 1) + 1) + 1) (((((((((((((((((0 + 6) + 6) + 6) + 6) + 6) + 6) + 6) + 6) + 6) + 6) + 6) + 6) + 6) + 6) + 6) + 6) + 6) Q (F0 m 417 ls [.int 1]) by
      refine lv_icmp_lt (tgt := 406) X.1 X.2.1 dL_minute_389 (by decide) (fun c_389 => ?_) (fun c_389 => ?_)
      · skip
        refine lv_iload X.1 X.2.1 dL_minute_406 (lv_at hl 4 rfl) ?_
        refine lv_iconst (v := 1) X.1 X.2.1 dL_minute_408 (by decide) ?_
        refine lv_icmp_eq (tgt := 416) X.1 X.2.1 dL_minute_409 (by decide) (fun c_409 => absurd c_409 (hw.2 c_389)) (fun c_409 => ?_)
        refine lv_iconst (v := 1) X.1 X.2.1 dL_minute_412 (by decide) ?_
        refine lv_goto (tgt := 417) X.1 X.2.1 dL_minute_413 (by decide) ?_
        exact J417
      · skip
        refine lv_iload X.1 X.2.1 dL_minute_392 (lv_at hl 4 rfl) ?_
        refine lv_if_eq (tgt := 412) X.1 X.2.1 dL_minute_394 (by decide) (fun c_394 => ?_) (fun c_394 => ?_)
        · skip
          refine lv_iconst (v := 1) X.1 X.2.1 dL_minute_412 (by decide) ?_
          refine lv_goto (tgt := 417) X.1 X.2.1 dL_minute_413 (by decide) ?_
          exact J417
        · skip
          refine lv_iload X.1 X.2.1 dL_minute_397 (lv_at hl 4 rfl) ?_
          refine lv_iconst (v := 1) X.1 X.2.1 dL_minute_399 (by decide) ?_
          refine lv_icmp_ne (tgt := 416) X.1 X.2.1 dL_minute_400 (by decide) (fun c_400 => absurd ((hw.1 c_389).resolve_left c_394) c_400) (fun c_400 => ?_)
          refine lv_goto (tgt := 412) X.1 X.2.1 dL_minute_403 (by decide) ?_
          refine lv_iconst (v := 1) X.1 X.2.1 dL_minute_412 (by decide) ?_
          refine lv_goto (tgt := 417) X.1 X.2.1 dL_minute_413 (by decide) ?_
          exact J417
    refine lv_istore (lv' := [(17, .int 1), (16, .int v16), (15, .int v15), (14, .int 0), (13, .int 1), (12, .int r70), (11, .int ((σ.1 7) + (RUNF σ.1 1 7 - σ.1 7))), (10, .int (RUNF σ.1 1 5 - σ.1 5)), (9, .int (σ.1 (16 + 8 * i + 4))), (8, .int (σ.1 (16 + 8 * i + 7))), (7, .int (σ.1 (16 + 8 * i + 5))), (6, .int (σ.1 (16 + 8 * i + 3))), (5, .int 3), (4, .int (nI i)), (3, .int (nI (mF σ.1))), (0, .ref ho), (1, .ref hq), (2, .int (nI N))]) X.1 X.2.1 dL_minute_417 hl (by decide) rfl (fun ls hl => ?_)
    refine lv_iload X.1 X.2.1 dL_minute_419 (lv_at hl 0 rfl) ?_
    refine lv_if_eq (tgt := 486) X.1 X.2.1 dL_minute_421 (by decide) (fun c_421 => absurd c_421 (by decide)) (fun c_421 => ?_)
    refine lv_aload_n X.1 X.2.1 dL_minute_424 rfl (lv_at hl 15 rfl) ?_
    refine lv_bipush (v := 10) X.1 X.2.1 dL_minute_425 (by decide) ?_
    refine lv_iconst (v := 0) X.1 X.2.1 dL_minute_427 (by decide) ?_
    refine lv_iconst (v := 0) X.1 X.2.1 dL_minute_428 (by decide) ?_
    refine lv_iconst (v := 0) X.1 X.2.1 dL_minute_429 (by decide) ?_
    refine kGL (rest := []) (As := [.ref ho, .int 10, .int 0, .int 0, .int 0]) X hP hD hS hl.1 o77.len (q_undo l hst G kk (by omega) o77  0 0 0 (hc1)) sl_L_138 ⟨Nat.le_of_ble_eq_true rfl, Nat.le_of_ble_eq_true rfl, rfl, rfl⟩ ⟨by show _ ≤ 60; omega, by show _ ≤ 360; omega⟩ rfl (Nat.le_of_ble_eq_true rfl) dL_minute_430 (fun w78 r78 H locs hΦ a78 hP hD hS => ?_)
    obtain ⟨o78, rfl⟩ := hΦ
    replace a78 := a78.trans a77
    refine k_goI (k_runS (rest := []) (As := [.int (nI (σ1.2.1 - 1))]) X.1 X.2.1 X.2.2.1 X.2.2.2.1 X.2.2.2.2.1 X.2.2.2.2.2.1 hP hD hS X.2.2.2.2.2.2.1 X.2.2.2.2.2.2.2.1 hl.1 (c_L_thrown l G kk (nI (σ1.2.1 - 1))) sl_L_190 ⟨Nat.le_of_ble_eq_true rfl, Nat.le_of_ble_eq_true rfl, rfl, rfl⟩ [] rfl rfl ⟨by show _ ≤ 60; omega, by show _ ≤ 360; omega⟩ rfl (Nat.le_of_ble_eq_true rfl) dL_minute_433) hP hD hS X.2.2.2.2.2.2.1 [] rfl rfl (fun H locs hP hD hS => ?_)
    replace hP : va_P G vwCl (w78 ++ w72) H := hP
    replace hD : va_D A (w78 ++ w72) := hD
    refine top_eq (y := 0) (thrown_n (by omega)) ?_
    refine lv_if_ne (tgt := 486) X.1 X.2.1 dL_minute_436 (by decide) (fun c_436 => absurd (by decide) c_436) (fun c_436 => ?_)
    refine lv_aload_n X.1 X.2.1 dL_minute_439 rfl (lv_at hl 16 rfl) ?_
    refine lv_bipush (v := 10) X.1 X.2.1 dL_minute_440 (by decide) ?_
    refine lv_iconst (v := 0) X.1 X.2.1 dL_minute_442 (by decide) ?_
    refine lv_iconst (v := 0) X.1 X.2.1 dL_minute_443 (by decide) ?_
    refine lv_iconst (v := 0) X.1 X.2.1 dL_minute_444 (by decide) ?_
    refine kGR (rest := []) (As := [.ref hq, .int 10, .int 0, .int 0, .int 0]) X hP hD hS hl.1 o72.len o78.len (q_undo l hst G kk (by omega) o72  0 0 0 (hc1)) sl_L_138 ⟨Nat.le_of_ble_eq_true rfl, Nat.le_of_ble_eq_true rfl, rfl, rfl⟩ ⟨by show _ ≤ 60; omega, by show _ ≤ 360; omega⟩ rfl (Nat.le_of_ble_eq_true rfl) dL_minute_445 (fun w79 r79 H locs hΦ a79 hP hD hS => ?_)
    obtain ⟨o79, rfl⟩ := hΦ
    replace a79 := a79.trans a72
    refine k_goI (k_runS (rest := []) (As := [.int (nI (σ1.2.1 - 1))]) X.1 X.2.1 X.2.2.1 X.2.2.2.1 X.2.2.2.2.1 X.2.2.2.2.2.1 hP hD hS X.2.2.2.2.2.2.1 X.2.2.2.2.2.2.2.1 hl.1 (c_L_thrown l G kk (nI (σ1.2.1 - 1))) sl_L_190 ⟨Nat.le_of_ble_eq_true rfl, Nat.le_of_ble_eq_true rfl, rfl, rfl⟩ [] rfl rfl ⟨by show _ ≤ 60; omega, by show _ ≤ 360; omega⟩ rfl (Nat.le_of_ble_eq_true rfl) dL_minute_448) hP hD hS X.2.2.2.2.2.2.1 [] rfl rfl (fun H locs hP hD hS => ?_)
    replace hP : va_P G vwCl (w78 ++ w79) H := hP
    replace hD : va_D A (w78 ++ w79) := hD
    refine top_eq (y := 0) (thrown_n (by omega)) ?_
    refine lv_if_ne (tgt := 486) X.1 X.2.1 dL_minute_451 (by decide) (fun c_451 => absurd (by decide) c_451) (fun c_451 => ?_)
    refine lv_aload_n X.1 X.2.1 dL_minute_454 rfl (lv_at hl 15 rfl) ?_
    refine lv_iconst (v := 3) X.1 X.2.1 dL_minute_455 (by decide) ?_
    refine lv_iload X.1 X.2.1 dL_minute_456 (lv_at hl 13 rfl) ?_
    refine lv_iconst (v := 3) X.1 X.2.1 dL_minute_458 (by decide) ?_
    refine lv_iconst (v := 0) X.1 X.2.1 dL_minute_459 (by decide) ?_
    refine kGL (rest := []) (As := [.ref ho, .int 3, .int (nI i), .int 3, .int 0]) X hP hD hS hl.1 o78.len (q_room l hst G kk (by omega) o78 (nI i) (3 : Int32) 0 ) sl_L_138 ⟨Nat.le_of_ble_eq_true rfl, Nat.le_of_ble_eq_true rfl, rfl, rfl⟩ ⟨by show _ ≤ 60; omega, by show _ ≤ 360; omega⟩ rfl (Nat.le_of_ble_eq_true rfl) dL_minute_460 (fun w80 r80 H locs hΦ a80 hP hD hS => ?_)
    obtain ⟨o80, rfl⟩ := hΦ
    replace a80 := a80.trans a78
    refine top_eq (y := (σ.1 (16 + 8 * i + 3))) ((by rw [f2]; exact qr_at ok (w := 3) hi (by decide))) ?_
    refine lv_iload X.1 X.2.1 dL_minute_463 (lv_at hl 11 rfl) ?_
    refine lv_icmp_ne (tgt := 486) X.1 X.2.1 dL_minute_465 (by decide) (fun c_465 => absurd (rfl) c_465) (fun c_465 => ?_)
    refine lv_aload_n X.1 X.2.1 dL_minute_468 rfl (lv_at hl 15 rfl) ?_
    refine lv_iconst (v := 4) X.1 X.2.1 dL_minute_469 (by decide) ?_
    refine lv_iload X.1 X.2.1 dL_minute_470 (lv_at hl 13 rfl) ?_
    refine lv_iconst (v := 0) X.1 X.2.1 dL_minute_472 (by decide) ?_
    refine lv_iconst (v := 0) X.1 X.2.1 dL_minute_473 (by decide) ?_
    refine kGL (rest := []) (As := [.ref ho, .int 4, .int (nI i), .int 0, .int 0]) X hP hD hS hl.1 o80.len (q_does l hst G kk (by omega) o80 (nI i) 0 0 ) sl_L_138 ⟨Nat.le_of_ble_eq_true rfl, Nat.le_of_ble_eq_true rfl, rfl, rfl⟩ ⟨by show _ ≤ 60; omega, by show _ ≤ 360; omega⟩ rfl (Nat.le_of_ble_eq_true rfl) dL_minute_474 (fun w81 r81 H locs hΦ a81 hP hD hS => ?_)
    obtain ⟨o81, rfl⟩ := hΦ
    replace a81 := a81.trans a80
    refine top_eq (y := 3) ((by rw [f2]; exact (qd_at ok hi).trans hd1)) ?_
    refine lv_iload X.1 X.2.1 dL_minute_477 (lv_at hl 12 rfl) ?_
    refine lv_icmp_ne (tgt := 486) X.1 X.2.1 dL_minute_479 (by decide) (fun c_479 => absurd (by decide) c_479) (fun c_479 => ?_)
    refine lv_iconst (v := 1) X.1 X.2.1 dL_minute_482 (by decide) ?_
    refine lv_goto (tgt := 487) X.1 X.2.1 dL_minute_483 (by decide) ?_
    refine W.widen (k := 60) (n := 360) (by omega) (by omega) ?_
    exact FIN _ 1 H locs ls 487 ⟨⟨_, _, rfl, o81, o79⟩, rfl⟩ (ads_app a81 a79) hP hD hS (fun _ => rfl) dL_minute_487
  · skip
    refine kGL (rest := []) (As := [.ref ho, .int 4, .int (nI i), .int 0, .int 0]) X hP hD hS hl.1 o1.len (q_does l hst G kk (by omega) o1 (nI i) 0 0 ) sl_L_138 ⟨Nat.le_of_ble_eq_true rfl, Nat.le_of_ble_eq_true rfl, rfl, rfl⟩ ⟨by show _ ≤ 60; omega, by show _ ≤ 360; omega⟩ rfl (Nat.le_of_ble_eq_true rfl) dL_minute_20 (fun w82 r82 H locs hΦ a82 hP hD hS => ?_)
    obtain ⟨o82, rfl⟩ := hΦ
    replace a82 := a82.trans a1
    refine top_eq (y := 4) ((qd_at ok hi).trans hd1) ?_
    refine lv_istore (lv' := [(5, .int 4), (4, .int (nI i)), (3, .int (nI (mF σ.1))), (0, .ref ho), (1, .ref hq), (2, .int (nI N))]) X.1 X.2.1 dL_minute_23 hl (by decide) rfl (fun ls hl => ?_)
    refine lv_aload_n X.1 X.2.1 dL_minute_25 rfl (lv_at hl 3 rfl) ?_
    refine lv_iconst (v := 3) X.1 X.2.1 dL_minute_26 (by decide) ?_
    refine lv_iload X.1 X.2.1 dL_minute_27 (lv_at hl 1 rfl) ?_
    refine lv_iconst (v := 3) X.1 X.2.1 dL_minute_29 (by decide) ?_
    refine lv_iconst (v := 0) X.1 X.2.1 dL_minute_30 (by decide) ?_
    refine kGL (rest := []) (As := [.ref ho, .int 3, .int (nI i), .int 3, .int 0]) X hP hD hS hl.1 o82.len (q_room l hst G kk (by omega) o82 (nI i) (3 : Int32) 0 ) sl_L_138 ⟨Nat.le_of_ble_eq_true rfl, Nat.le_of_ble_eq_true rfl, rfl, rfl⟩ ⟨by show _ ≤ 60; omega, by show _ ≤ 360; omega⟩ rfl (Nat.le_of_ble_eq_true rfl) dL_minute_31 (fun w83 r83 H locs hΦ a83 hP hD hS => ?_)
    obtain ⟨o83, rfl⟩ := hΦ
    replace a83 := a83.trans a82
    refine top_eq (y := (σ.1 (16 + 8 * i + 3))) (qr_at ok (w := 3) hi (by decide)) ?_
    refine lv_istore (lv' := [(6, .int (σ.1 (16 + 8 * i + 3))), (5, .int 4), (4, .int (nI i)), (3, .int (nI (mF σ.1))), (0, .ref ho), (1, .ref hq), (2, .int (nI N))]) X.1 X.2.1 dL_minute_34 hl (by decide) rfl (fun ls hl => ?_)
    refine lv_aload_n X.1 X.2.1 dL_minute_36 rfl (lv_at hl 4 rfl) ?_
    refine lv_iconst (v := 3) X.1 X.2.1 dL_minute_37 (by decide) ?_
    refine lv_iload X.1 X.2.1 dL_minute_38 (lv_at hl 2 rfl) ?_
    refine lv_iconst (v := 5) X.1 X.2.1 dL_minute_40 (by decide) ?_
    refine lv_iconst (v := 0) X.1 X.2.1 dL_minute_41 (by decide) ?_
    refine kGL (rest := []) (As := [.ref ho, .int 3, .int (nI i), .int 5, .int 0]) X hP hD hS hl.1 o83.len (q_room l hst G kk (by omega) o83 (nI i) (5 : Int32) 0 ) sl_L_138 ⟨Nat.le_of_ble_eq_true rfl, Nat.le_of_ble_eq_true rfl, rfl, rfl⟩ ⟨by show _ ≤ 60; omega, by show _ ≤ 360; omega⟩ rfl (Nat.le_of_ble_eq_true rfl) dL_minute_42 (fun w84 r84 H locs hΦ a84 hP hD hS => ?_)
    obtain ⟨o84, rfl⟩ := hΦ
    replace a84 := a84.trans a83
    refine top_eq (y := (σ.1 (16 + 8 * i + 5))) (qr_at ok (w := 5) hi (by decide)) ?_
    refine lv_istore (lv' := [(7, .int (σ.1 (16 + 8 * i + 5))), (6, .int (σ.1 (16 + 8 * i + 3))), (5, .int 4), (4, .int (nI i)), (3, .int (nI (mF σ.1))), (0, .ref ho), (1, .ref hq), (2, .int (nI N))]) X.1 X.2.1 dL_minute_45 hl (by decide) rfl (fun ls hl => ?_)
    refine lv_aload_n X.1 X.2.1 dL_minute_47 rfl (lv_at hl 5 rfl) ?_
    refine lv_iconst (v := 3) X.1 X.2.1 dL_minute_48 (by decide) ?_
    refine lv_iload X.1 X.2.1 dL_minute_49 (lv_at hl 3 rfl) ?_
    refine lv_bipush (v := 7) X.1 X.2.1 dL_minute_51 (by decide) ?_
    refine lv_iconst (v := 0) X.1 X.2.1 dL_minute_53 (by decide) ?_
    refine kGL (rest := []) (As := [.ref ho, .int 3, .int (nI i), .int 7, .int 0]) X hP hD hS hl.1 o84.len (q_room l hst G kk (by omega) o84 (nI i) (7 : Int32) 0 ) sl_L_138 ⟨Nat.le_of_ble_eq_true rfl, Nat.le_of_ble_eq_true rfl, rfl, rfl⟩ ⟨by show _ ≤ 60; omega, by show _ ≤ 360; omega⟩ rfl (Nat.le_of_ble_eq_true rfl) dL_minute_54 (fun w85 r85 H locs hΦ a85 hP hD hS => ?_)
    obtain ⟨o85, rfl⟩ := hΦ
    replace a85 := a85.trans a84
    refine top_eq (y := (σ.1 (16 + 8 * i + 7))) (qr_at ok (w := 7) hi (by decide)) ?_
    refine lv_istore (lv' := [(8, .int (σ.1 (16 + 8 * i + 7))), (7, .int (σ.1 (16 + 8 * i + 5))), (6, .int (σ.1 (16 + 8 * i + 3))), (5, .int 4), (4, .int (nI i)), (3, .int (nI (mF σ.1))), (0, .ref ho), (1, .ref hq), (2, .int (nI N))]) X.1 X.2.1 dL_minute_57 hl (by decide) rfl (fun ls hl => ?_)
    refine lv_aload_n X.1 X.2.1 dL_minute_59 rfl (lv_at hl 6 rfl) ?_
    refine lv_iconst (v := 3) X.1 X.2.1 dL_minute_60 (by decide) ?_
    refine lv_iload X.1 X.2.1 dL_minute_61 (lv_at hl 4 rfl) ?_
    refine lv_iconst (v := 4) X.1 X.2.1 dL_minute_63 (by decide) ?_
    refine lv_iconst (v := 0) X.1 X.2.1 dL_minute_64 (by decide) ?_
    refine kGL (rest := []) (As := [.ref ho, .int 3, .int (nI i), .int 4, .int 0]) X hP hD hS hl.1 o85.len (q_room l hst G kk (by omega) o85 (nI i) (4 : Int32) 0 ) sl_L_138 ⟨Nat.le_of_ble_eq_true rfl, Nat.le_of_ble_eq_true rfl, rfl, rfl⟩ ⟨by show _ ≤ 60; omega, by show _ ≤ 360; omega⟩ rfl (Nat.le_of_ble_eq_true rfl) dL_minute_65 (fun w86 r86 H locs hΦ a86 hP hD hS => ?_)
    obtain ⟨o86, rfl⟩ := hΦ
    replace a86 := a86.trans a85
    refine top_eq (y := (σ.1 (16 + 8 * i + 4))) (qr_at ok (w := 4) hi (by decide)) ?_
    refine lv_istore (lv' := [(9, .int (σ.1 (16 + 8 * i + 4))), (8, .int (σ.1 (16 + 8 * i + 7))), (7, .int (σ.1 (16 + 8 * i + 5))), (6, .int (σ.1 (16 + 8 * i + 3))), (5, .int 4), (4, .int (nI i)), (3, .int (nI (mF σ.1))), (0, .ref ho), (1, .ref hq), (2, .int (nI N))]) X.1 X.2.1 dL_minute_68 hl (by decide) rfl (fun ls hl => ?_)
    refine lv_aload_n X.1 X.2.1 dL_minute_70 rfl (lv_at hl 7 rfl) ?_
    refine lv_bipush (v := 12) X.1 X.2.1 dL_minute_71 (by decide) ?_
    refine lv_iconst (v := 1) X.1 X.2.1 dL_minute_73 (by decide) ?_
    refine lv_iconst (v := 0) X.1 X.2.1 dL_minute_74 (by decide) ?_
    refine lv_iconst (v := 0) X.1 X.2.1 dL_minute_75 (by decide) ?_
    refine kGL (rest := []) (As := [.ref ho, .int 12, .int 1, .int 0, .int 0]) X hP hD hS hl.1 o86.len (q_coming l hst G kk (by omega) o86 (1 : Int32) (0 : Int32) 0 (rfl) (Or.inl rfl)) sl_L_138 ⟨Nat.le_of_ble_eq_true rfl, Nat.le_of_ble_eq_true rfl, rfl, rfl⟩ ⟨by show _ ≤ 60; omega, by show _ ≤ 360; omega⟩ rfl (Nat.le_of_ble_eq_true rfl) dL_minute_76 (fun w87 r87 H locs hΦ a87 hP hD hS => ?_)
    obtain ⟨o87, rfl⟩ := hΦ
    replace a87 := a87.trans a86
    refine top_eq (y := (RUNF σ.1 1 5 - σ.1 5)) (if_pos rfl) ?_
    refine lv_istore (lv' := [(10, .int (RUNF σ.1 1 5 - σ.1 5)), (9, .int (σ.1 (16 + 8 * i + 4))), (8, .int (σ.1 (16 + 8 * i + 7))), (7, .int (σ.1 (16 + 8 * i + 5))), (6, .int (σ.1 (16 + 8 * i + 3))), (5, .int 4), (4, .int (nI i)), (3, .int (nI (mF σ.1))), (0, .ref ho), (1, .ref hq), (2, .int (nI N))]) X.1 X.2.1 dL_minute_79 hl (by decide) rfl (fun ls hl => ?_)
    refine lv_aload_n X.1 X.2.1 dL_minute_81 rfl (lv_at hl 8 rfl) ?_
    refine lv_iconst (v := 2) X.1 X.2.1 dL_minute_82 (by decide) ?_
    refine lv_bipush (v := 8) X.1 X.2.1 dL_minute_83 (by decide) ?_
    refine lv_iconst (v := 0) X.1 X.2.1 dL_minute_85 (by decide) ?_
    refine lv_iconst (v := 0) X.1 X.2.1 dL_minute_86 (by decide) ?_
    refine kGL (rest := []) (As := [.ref ho, .int 2, .int 8, .int 0, .int 0]) X hP hD hS hl.1 o87.len (q_about l hst G kk (by omega) o87 (8 : Int32) 0 0 ) sl_L_138 ⟨Nat.le_of_ble_eq_true rfl, Nat.le_of_ble_eq_true rfl, rfl, rfl⟩ ⟨by show _ ≤ 60; omega, by show _ ≤ 360; omega⟩ rfl (Nat.le_of_ble_eq_true rfl) dL_minute_87 (fun w88 r88 H locs hΦ a88 hP hD hS => ?_)
    obtain ⟨o88, rfl⟩ := hΦ
    replace a88 := a88.trans a87
    refine top_eq (y := (σ.1 7)) (qa_8 σ.1) ?_
    refine lv_aload_n X.1 X.2.1 dL_minute_90 rfl (lv_at hl 8 rfl) ?_
    refine lv_bipush (v := 12) X.1 X.2.1 dL_minute_91 (by decide) ?_
    refine lv_iconst (v := 1) X.1 X.2.1 dL_minute_93 (by decide) ?_
    refine lv_iconst (v := 3) X.1 X.2.1 dL_minute_94 (by decide) ?_
    refine lv_iconst (v := 0) X.1 X.2.1 dL_minute_95 (by decide) ?_
    refine kGL (rest := [.int (σ.1 7)]) (As := [.ref ho, .int 12, .int 1, .int 3, .int 0]) X hP hD hS hl.1 o88.len (q_coming l hst G kk (by omega) o88 (1 : Int32) (3 : Int32) 0 (rfl) (Or.inr rfl)) sl_L_138 ⟨Nat.le_of_ble_eq_true rfl, Nat.le_of_ble_eq_true rfl, rfl, rfl⟩ ⟨by show _ ≤ 60; omega, by show _ ≤ 360; omega⟩ rfl (Nat.le_of_ble_eq_true rfl) dL_minute_96 (fun w89 r89 H locs hΦ a89 hP hD hS => ?_)
    obtain ⟨o89, rfl⟩ := hΦ
    replace a89 := a89.trans a88
    refine top_eq (y := (RUNF σ.1 1 7 - σ.1 7)) (if_neg (by decide)) ?_
    refine lv_iadd X.1 X.2.1 dL_minute_99 ?_
    refine lv_istore (lv' := [(11, .int ((σ.1 7) + (RUNF σ.1 1 7 - σ.1 7))), (10, .int (RUNF σ.1 1 5 - σ.1 5)), (9, .int (σ.1 (16 + 8 * i + 4))), (8, .int (σ.1 (16 + 8 * i + 7))), (7, .int (σ.1 (16 + 8 * i + 5))), (6, .int (σ.1 (16 + 8 * i + 3))), (5, .int 4), (4, .int (nI i)), (3, .int (nI (mF σ.1))), (0, .ref ho), (1, .ref hq), (2, .int (nI N))]) X.1 X.2.1 dL_minute_100 hl (by decide) rfl (fun ls hl => ?_)
    refine lv_aload_n X.1 X.2.1 dL_minute_102 rfl (lv_at hl 9 rfl) ?_
    refine lv_bipush (v := 11) X.1 X.2.1 dL_minute_103 (by decide) ?_
    refine lv_iload X.1 X.2.1 dL_minute_105 (lv_at hl 7 rfl) ?_
    refine lv_iconst (v := 0) X.1 X.2.1 dL_minute_107 (by decide) ?_
    refine lv_iconst (v := 0) X.1 X.2.1 dL_minute_108 (by decide) ?_
    refine kGL (rest := []) (As := [.ref ho, .int 11, .int (nI i), .int 0, .int 0]) X hP hD hS hl.1 o89.len (q_warm l hst G kk (by omega) o89 (nI i) 0 0 (ir_yes ok hi)) sl_L_138 ⟨Nat.le_of_ble_eq_true rfl, Nat.le_of_ble_eq_true rfl, rfl, rfl⟩ ⟨by show _ ≤ 60; omega, by show _ ≤ 360; omega⟩ rfl (Nat.le_of_ble_eq_true rfl) dL_minute_109 (fun w90 r90 H locs hΦ a90 hP hD hS => ?_)
    obtain ⟨o90, p90⟩ := hΦ
    replace a90 := a90.trans a89
    refine lv_istore (lv' := [(12, .int r90), (11, .int ((σ.1 7) + (RUNF σ.1 1 7 - σ.1 7))), (10, .int (RUNF σ.1 1 5 - σ.1 5)), (9, .int (σ.1 (16 + 8 * i + 4))), (8, .int (σ.1 (16 + 8 * i + 7))), (7, .int (σ.1 (16 + 8 * i + 5))), (6, .int (σ.1 (16 + 8 * i + 3))), (5, .int 4), (4, .int (nI i)), (3, .int (nI (mF σ.1))), (0, .ref ho), (1, .ref hq), (2, .int (nI N))]) X.1 X.2.1 dL_minute_112 hl (by decide) rfl (fun ls hl => ?_)
    refine lv_iload X.1 X.2.1 dL_minute_114 (lv_at hl 7 rfl) ?_
    refine lv_iconst (v := 1) X.1 X.2.1 dL_minute_116 (by decide) ?_
    refine lv_icmp_eq (tgt := 126) X.1 X.2.1 dL_minute_117 (by decide) (fun c_117 => absurd c_117 (by decide)) (fun c_117 => ?_)
    refine lv_iload X.1 X.2.1 dL_minute_120 (lv_at hl 7 rfl) ?_
    refine lv_iconst (v := 3) X.1 X.2.1 dL_minute_122 (by decide) ?_
    refine lv_icmp_ne (tgt := 130) X.1 X.2.1 dL_minute_123 (by decide) (fun c_123 => ?_) (fun c_123 => absurd c_123 (by decide))
    refine lv_iconst (v := 0) X.1 X.2.1 dL_minute_130 (by decide) ?_
    refine lv_istore (lv' := [(13, .int 0), (12, .int r90), (11, .int ((σ.1 7) + (RUNF σ.1 1 7 - σ.1 7))), (10, .int (RUNF σ.1 1 5 - σ.1 5)), (9, .int (σ.1 (16 + 8 * i + 4))), (8, .int (σ.1 (16 + 8 * i + 7))), (7, .int (σ.1 (16 + 8 * i + 5))), (6, .int (σ.1 (16 + 8 * i + 3))), (5, .int 4), (4, .int (nI i)), (3, .int (nI (mF σ.1))), (0, .ref ho), (1, .ref hq), (2, .int (nI N))]) X.1 X.2.1 dL_minute_131 hl (by decide) rfl (fun ls hl => ?_)
    refine lv_iload X.1 X.2.1 dL_minute_133 (lv_at hl 8 rfl) ?_
    refine lv_if_eq (tgt := 150) X.1 X.2.1 dL_minute_135 (by decide) (fun c_135 => absurd c_135 (by decide)) (fun c_135 => ?_)
    refine lv_iload X.1 X.2.1 dL_minute_138 (lv_at hl 8 rfl) ?_
    refine lv_iconst (v := 2) X.1 X.2.1 dL_minute_140 (by decide) ?_
    refine lv_icmp_eq (tgt := 150) X.1 X.2.1 dL_minute_141 (by decide) (fun c_141 => absurd c_141 (by decide)) (fun c_141 => ?_)
    refine lv_iload X.1 X.2.1 dL_minute_144 (lv_at hl 8 rfl) ?_
    refine lv_iconst (v := 5) X.1 X.2.1 dL_minute_146 (by decide) ?_
    refine lv_icmp_ne (tgt := 154) X.1 X.2.1 dL_minute_147 (by decide) (fun c_147 => ?_) (fun c_147 => absurd c_147 (by decide))
    refine lv_iconst (v := 0) X.1 X.2.1 dL_minute_154 (by decide) ?_
    refine lv_istore (lv' := [(14, .int 0), (13, .int 0), (12, .int r90), (11, .int ((σ.1 7) + (RUNF σ.1 1 7 - σ.1 7))), (10, .int (RUNF σ.1 1 5 - σ.1 5)), (9, .int (σ.1 (16 + 8 * i + 4))), (8, .int (σ.1 (16 + 8 * i + 7))), (7, .int (σ.1 (16 + 8 * i + 5))), (6, .int (σ.1 (16 + 8 * i + 3))), (5, .int 4), (4, .int (nI i)), (3, .int (nI (mF σ.1))), (0, .ref ho), (1, .ref hq), (2, .int (nI N))]) X.1 X.2.1 dL_minute_155 hl (by decide) rfl (fun ls hl => ?_)
    refine lv_iload X.1 X.2.1 dL_minute_157 (lv_at hl 8 rfl) ?_
    refine lv_iload X.1 X.2.1 dL_minute_159 (lv_at hl 1 rfl) ?_
    refine lv_if_eq (tgt := 175) X.1 X.2.1 dL_minute_161 (by decide) (fun c_161 => ?_) (fun c_161 => absurd (by decide) c_161)
    refine lv_iload X.1 X.2.1 dL_minute_175 (lv_at hl 0 rfl) ?_
    refine lv_if_eq (tgt := 185) X.1 X.2.1 dL_minute_177 (by decide) (fun c_177 => ?_) (fun c_177 => absurd (by decide) c_177)
    refine lv_iconst (v := 1) X.1 X.2.1 dL_minute_185 (by decide) ?_
    refine lv_iadd X.1 X.2.1 dL_minute_186 ?_
    refine lv_iconst (v := 4) X.1 X.2.1 dL_minute_187 (by decide) ?_
    refine lv_iload X.1 X.2.1 dL_minute_188 (lv_at hl 5 rfl) ?_
    refine lv_imul X.1 X.2.1 dL_minute_190 ?_
    refine lv_iadd X.1 X.2.1 dL_minute_191 ?_
    refine lv_istore (lv' := [(15, .int (((σ.1 (16 + 8 * i + 3)) + 1) + (4 * (σ.1 (16 + 8 * i + 4))))), (14, .int 0), (13, .int 0), (12, .int r90), (11, .int ((σ.1 7) + (RUNF σ.1 1 7 - σ.1 7))), (10, .int (RUNF σ.1 1 5 - σ.1 5)), (9, .int (σ.1 (16 + 8 * i + 4))), (8, .int (σ.1 (16 + 8 * i + 7))), (7, .int (σ.1 (16 + 8 * i + 5))), (6, .int (σ.1 (16 + 8 * i + 3))), (5, .int 4), (4, .int (nI i)), (3, .int (nI (mF σ.1))), (0, .ref ho), (1, .ref hq), (2, .int (nI N))]) X.1 X.2.1 dL_minute_192 hl (by decide) rfl (fun ls hl => ?_)
    refine lv_iload X.1 X.2.1 dL_minute_194 (lv_at hl 0 rfl) ?_
    refine lv_sipush (v := 400) X.1 X.2.1 dL_minute_196 (by decide) ?_
    have eT : sX8_clamp ((((σ.1 (16 + 8 * i + 3)) + 1) + (4 * (σ.1 (16 + 8 * i + 4))))) (-400) 400 = Tn σ.1 (JB σ.1 i) i := by rw [hd1]; exact tn_val (x := 4) hz
    suffices J15 : ∀ v15 : Int32, v15 = Tn σ.1 (JB σ.1 i) i → W p l e (rmG 9 188 60 360) s m args below meth c H locs ((((((((((0 + 1) + 1) + 1) + 1) + 1) + 1) + 1) + 1) + 1) + 1) ((((((((((0 + 6) + 6) + 6) + 6) + 6) + 6) + 6) + 6) + 6) + 6) Q (F0 m 224 ls [.int v15]) by
      refine lv_icmp_le (tgt := 208) X.1 X.2.1 dL_minute_199 (by decide) (fun c_199 => ?_) (fun c_199 => ?_)
      · skip
        refine lv_iload X.1 X.2.1 dL_minute_208 (lv_at hl 0 rfl) ?_
        refine lv_sipush (v := (-400)) X.1 X.2.1 dL_minute_210 (by decide) ?_
        refine lv_icmp_ge (tgt := 222) X.1 X.2.1 dL_minute_213 (by decide) (fun c_213 => ?_) (fun c_213 => ?_)
        · skip
          refine lv_iload X.1 X.2.1 dL_minute_222 (lv_at hl 0 rfl) ?_
          exact J15 _ ((cl_mid c_199 c_213).trans eT)
        · skip
          refine lv_sipush (v := (-400)) X.1 X.2.1 dL_minute_216 (by decide) ?_
          refine lv_goto (tgt := 224) X.1 X.2.1 dL_minute_219 (by decide) ?_
          exact J15 _ ((cl_lo c_213).trans eT)
      · skip
        refine lv_sipush (v := 400) X.1 X.2.1 dL_minute_202 (by decide) ?_
        refine lv_goto (tgt := 224) X.1 X.2.1 dL_minute_205 (by decide) ?_
        exact J15 _ ((cl_hi c_199).trans eT)
    intro v15 h15
    refine lv_istore (lv' := [(15, .int v15), (14, .int 0), (13, .int 0), (12, .int r90), (11, .int ((σ.1 7) + (RUNF σ.1 1 7 - σ.1 7))), (10, .int (RUNF σ.1 1 5 - σ.1 5)), (9, .int (σ.1 (16 + 8 * i + 4))), (8, .int (σ.1 (16 + 8 * i + 7))), (7, .int (σ.1 (16 + 8 * i + 5))), (6, .int (σ.1 (16 + 8 * i + 3))), (5, .int 4), (4, .int (nI i)), (3, .int (nI (mF σ.1))), (0, .ref ho), (1, .ref hq), (2, .int (nI N))]) X.1 X.2.1 dL_minute_224 hl (by decide) rfl (fun ls hl => ?_)
    refine lv_iload X.1 X.2.1 dL_minute_226 (lv_at hl 1 rfl) ?_
    refine lv_if_eq (tgt := 250) X.1 X.2.1 dL_minute_228 (by decide) (fun c_228 => ?_) (fun c_228 => absurd (by decide) c_228)
    refine lv_iload X.1 X.2.1 dL_minute_250 (lv_at hl 8 rfl) ?_
    refine lv_iload X.1 X.2.1 dL_minute_252 (lv_at hl 2 rfl) ?_
    refine lv_if_eq (tgt := 261) X.1 X.2.1 dL_minute_254 (by decide) (fun c_254 => ?_) (fun c_254 => absurd (by decide) c_254)
    refine lv_iconst (v := 0) X.1 X.2.1 dL_minute_261 (by decide) ?_
    refine lv_iadd X.1 X.2.1 dL_minute_262 ?_
    refine lv_iconst (v := 2) X.1 X.2.1 dL_minute_263 (by decide) ?_
    refine lv_iload X.1 X.2.1 dL_minute_264 (lv_at hl 6 rfl) ?_
    refine lv_imul X.1 X.2.1 dL_minute_266 ?_
    refine lv_iadd X.1 X.2.1 dL_minute_267 ?_
    obtain ⟨v16, h16e⟩ : ∃ v16, v16 = (((σ.1 (16 + 8 * i + 5)) + 0) + (2 * (σ.1 (16 + 8 * i + 4)))) := ⟨_, rfl⟩
    have h16 : (if v16 ≤ 100 then v16 else 100) = Fn σ.1 (JB σ.1 i) i := by rw [h16e, hd1]; exact fn_un hz hf0 hf1 (by decide) (by decide)
    refine top_eq (y := v16) (h16e.symm) ?_
    refine lv_istore (lv' := [(16, .int v16), (15, .int v15), (14, .int 0), (13, .int 0), (12, .int r90), (11, .int ((σ.1 7) + (RUNF σ.1 1 7 - σ.1 7))), (10, .int (RUNF σ.1 1 5 - σ.1 5)), (9, .int (σ.1 (16 + 8 * i + 4))), (8, .int (σ.1 (16 + 8 * i + 7))), (7, .int (σ.1 (16 + 8 * i + 5))), (6, .int (σ.1 (16 + 8 * i + 3))), (5, .int 4), (4, .int (nI i)), (3, .int (nI (mF σ.1))), (0, .ref ho), (1, .ref hq), (2, .int (nI N))]) X.1 X.2.1 dL_minute_268 hl (by decide) rfl (fun ls hl => ?_)
    refine lv_aload_n X.1 X.2.1 dL_minute_270 rfl (lv_at hl 14 rfl) ?_
    refine lv_bipush (v := 8) X.1 X.2.1 dL_minute_271 (by decide) ?_
    refine lv_iconst (v := 1) X.1 X.2.1 dL_minute_273 (by decide) ?_
    refine lv_iconst (v := 0) X.1 X.2.1 dL_minute_274 (by decide) ?_
    refine lv_iconst (v := 0) X.1 X.2.1 dL_minute_275 (by decide) ?_
    refine kGL (rest := []) (As := [.ref ho, .int 8, .int 1, .int 0, .int 0]) X hP hD hS hl.1 o90.len (q_run l hst G kk (by omega) o90 (1 : Int32) 0 0 (by decide)) sl_L_138 ⟨Nat.le_of_ble_eq_true rfl, Nat.le_of_ble_eq_true rfl, rfl, rfl⟩ ⟨by show _ ≤ 60; omega, by show _ ≤ 360; omega⟩ rfl (Nat.le_of_ble_eq_true rfl) dL_minute_276 (fun w91 r91 H locs hΦ a91 hP hD hS => ?_)
    obtain ⟨o91, rfl⟩ := hΦ
    replace a91 := a91.trans a90
    replace o91 : OB kk (B + 60) σ1 ho w91 := by rw [hσ]; exact o91
    have okA := o91.row.1
    have h1i : i < mF σ1.1 := by rw [m1]; exact hi
    refine top_eq (y := (RUNF σ.1 1 5 - σ.1 5)) (by rw [show (1 : Int32).toNatClampNeg = 1 from rfl]) ?_
    refine lv_iload X.1 X.2.1 dL_minute_279 (lv_at hl 6 rfl) ?_
    refine lv_icmp_ne (tgt := 416) X.1 X.2.1 dL_minute_281 (by decide) (fun c_281 => absurd (rfl) c_281) (fun c_281 => ?_)
    refine lv_aload_n X.1 X.2.1 dL_minute_284 rfl (lv_at hl 15 rfl) ?_
    refine lv_bipush (v := 8) X.1 X.2.1 dL_minute_285 (by decide) ?_
    refine lv_iconst (v := 1) X.1 X.2.1 dL_minute_287 (by decide) ?_
    refine lv_iconst (v := 0) X.1 X.2.1 dL_minute_288 (by decide) ?_
    refine lv_iconst (v := 0) X.1 X.2.1 dL_minute_289 (by decide) ?_
    refine kGR (rest := []) (As := [.ref hq, .int 8, .int 1, .int 0, .int 0]) X hP hD hS hl.1 ob.len o91.len (q_run l hst G kk (by omega) ob (1 : Int32) 0 0 (by decide)) sl_L_138 ⟨Nat.le_of_ble_eq_true rfl, Nat.le_of_ble_eq_true rfl, rfl, rfl⟩ ⟨by show _ ≤ 60; omega, by show _ ≤ 360; omega⟩ rfl (Nat.le_of_ble_eq_true rfl) dL_minute_290 (fun w92 r92 H locs hΦ a92 hP hD hS => ?_)
    obtain ⟨o92, rfl⟩ := hΦ
    replace a92 := a92.trans b0
    replace o92 : OB kk (B + 60) σ1 hq w92 := by rw [hσ]; exact o92
    refine top_eq (y := (RUNF σ.1 1 5 - σ.1 5)) (by rw [show (1 : Int32).toNatClampNeg = 1 from rfl]) ?_
    refine lv_iload X.1 X.2.1 dL_minute_293 (lv_at hl 6 rfl) ?_
    refine lv_icmp_ne (tgt := 416) X.1 X.2.1 dL_minute_295 (by decide) (fun c_295 => absurd (rfl) c_295) (fun c_295 => ?_)
    refine lv_aload_n X.1 X.2.1 dL_minute_298 rfl (lv_at hl 14 rfl) ?_
    refine lv_iconst (v := 3) X.1 X.2.1 dL_minute_299 (by decide) ?_
    refine lv_iload X.1 X.2.1 dL_minute_300 (lv_at hl 12 rfl) ?_
    refine lv_iconst (v := 3) X.1 X.2.1 dL_minute_302 (by decide) ?_
    refine lv_iconst (v := 0) X.1 X.2.1 dL_minute_303 (by decide) ?_
    refine kGL (rest := []) (As := [.ref ho, .int 3, .int (nI i), .int 3, .int 0]) X hP hD hS hl.1 o91.len (q_room l hst G kk (by omega) o91 (nI i) (3 : Int32) 0 ) sl_L_138 ⟨Nat.le_of_ble_eq_true rfl, Nat.le_of_ble_eq_true rfl, rfl, rfl⟩ ⟨by show _ ≤ 60; omega, by show _ ≤ 360; omega⟩ rfl (Nat.le_of_ble_eq_true rfl) dL_minute_304 (fun w93 r93 H locs hΦ a93 hP hD hS => ?_)
    obtain ⟨o93, rfl⟩ := hΦ
    replace a93 := a93.trans a91
    refine top_eq (y := (Tn σ.1 (JB σ.1 i) i)) ((qr_at okA (w := 3) h1i (by decide)).trans r3) ?_
    refine lv_iload X.1 X.2.1 dL_minute_307 (lv_at hl 1 rfl) ?_
    refine lv_icmp_ne (tgt := 416) X.1 X.2.1 dL_minute_309 (by decide) (fun c_309 => absurd (h15.symm) c_309) (fun c_309 => ?_)
    refine lv_aload_n X.1 X.2.1 dL_minute_312 rfl (lv_at hl 14 rfl) ?_
    refine lv_iconst (v := 3) X.1 X.2.1 dL_minute_313 (by decide) ?_
    refine lv_iload X.1 X.2.1 dL_minute_314 (lv_at hl 12 rfl) ?_
    refine lv_iconst (v := 5) X.1 X.2.1 dL_minute_316 (by decide) ?_
    refine lv_iconst (v := 0) X.1 X.2.1 dL_minute_317 (by decide) ?_
    refine kGL (rest := []) (As := [.ref ho, .int 3, .int (nI i), .int 5, .int 0]) X hP hD hS hl.1 o93.len (q_room l hst G kk (by omega) o93 (nI i) (5 : Int32) 0 ) sl_L_138 ⟨Nat.le_of_ble_eq_true rfl, Nat.le_of_ble_eq_true rfl, rfl, rfl⟩ ⟨by show _ ≤ 60; omega, by show _ ≤ 360; omega⟩ rfl (Nat.le_of_ble_eq_true rfl) dL_minute_318 (fun w94 r94 H locs hΦ a94 hP hD hS => ?_)
    obtain ⟨o94, rfl⟩ := hΦ
    replace a94 := a94.trans a93
    refine top_eq (y := (Fn σ.1 (JB σ.1 i) i)) ((qr_at okA (w := 5) h1i (by decide)).trans r5) ?_
    refine lv_iload X.1 X.2.1 dL_minute_321 (lv_at hl 0 rfl) ?_
    refine lv_bipush (v := 100) X.1 X.2.1 dL_minute_323 (by decide) ?_
    suffices J338 : W p l e (rmG 9 188 60 360) s m args below meth c H locs ((((((((((((((0 + 1) + 1) + 1) + 1) + 1) + 1) + 1) + 1) + 1) + 1) + 1) + 1) + 1) + 1) ((((((((((((((0 + 6) + 6) + 6) + 6) + 6) + 6) + 6) + 6) + 6) + 6) + 6) + 6) + 6) + 6) Q (F0 m 338 ls []) by
      refine lv_icmp_le (tgt := 333) X.1 X.2.1 dL_minute_325 (by decide) (fun c_325 => ?_) (fun c_325 => ?_)
      · skip
        refine lv_iload X.1 X.2.1 dL_minute_333 (lv_at hl 0 rfl) ?_
        refine lv_icmp_ne (tgt := 416) X.1 X.2.1 dL_minute_335 (by decide) (fun c_335 => absurd ((by rw [if_pos c_325] at h16; exact h16.symm)) c_335) (fun c_335 => ?_)
        exact J338
      · skip
        refine lv_bipush (v := 100) X.1 X.2.1 dL_minute_328 (by decide) ?_
        refine lv_goto (tgt := 335) X.1 X.2.1 dL_minute_330 (by decide) ?_
        refine lv_icmp_ne (tgt := 416) X.1 X.2.1 dL_minute_335 (by decide) (fun c_335 => absurd ((by rw [if_neg c_325] at h16; exact h16.symm)) c_335) (fun c_335 => ?_)
        exact J338
    refine lv_aload_n X.1 X.2.1 dL_minute_338 rfl (lv_at hl 14 rfl) ?_
    refine lv_iconst (v := 3) X.1 X.2.1 dL_minute_339 (by decide) ?_
    refine lv_iload X.1 X.2.1 dL_minute_340 (lv_at hl 12 rfl) ?_
    refine lv_bipush (v := 7) X.1 X.2.1 dL_minute_342 (by decide) ?_
    refine lv_iconst (v := 0) X.1 X.2.1 dL_minute_344 (by decide) ?_
    refine kGL (rest := []) (As := [.ref ho, .int 3, .int (nI i), .int 7, .int 0]) X hP hD hS hl.1 o94.len (q_room l hst G kk (by omega) o94 (nI i) (7 : Int32) 0 ) sl_L_138 ⟨Nat.le_of_ble_eq_true rfl, Nat.le_of_ble_eq_true rfl, rfl, rfl⟩ ⟨by show _ ≤ 60; omega, by show _ ≤ 360; omega⟩ rfl (Nat.le_of_ble_eq_true rfl) dL_minute_345 (fun w95 r95 H locs hΦ a95 hP hD hS => ?_)
    obtain ⟨o95, rfl⟩ := hΦ
    replace a95 := a95.trans a94
    refine top_eq (y := (σ.1 (16 + 8 * i + 7) + 0)) (((qr_at okA (w := 7) h1i (by decide)).trans r7).trans (by rw [hd1]; rfl)) ?_
    refine lv_iload X.1 X.2.1 dL_minute_348 (lv_at hl 8 rfl) ?_
    refine lv_iload X.1 X.2.1 dL_minute_350 (lv_at hl 3 rfl) ?_
    refine lv_if_eq (tgt := 359) X.1 X.2.1 dL_minute_352 (by decide) (fun c_352 => ?_) (fun c_352 => absurd (by decide) c_352)
    refine lv_iconst (v := 0) X.1 X.2.1 dL_minute_359 (by decide) ?_
    refine lv_iadd X.1 X.2.1 dL_minute_360 ?_
    refine lv_icmp_ne (tgt := 416) X.1 X.2.1 dL_minute_361 (by decide) (fun c_361 => absurd (rfl) c_361) (fun c_361 => ?_)
    refine lv_aload_n X.1 X.2.1 dL_minute_364 rfl (lv_at hl 14 rfl) ?_
    refine lv_iconst (v := 2) X.1 X.2.1 dL_minute_365 (by decide) ?_
    refine lv_bipush (v := 8) X.1 X.2.1 dL_minute_366 (by decide) ?_
    refine lv_iconst (v := 0) X.1 X.2.1 dL_minute_368 (by decide) ?_
    refine lv_iconst (v := 0) X.1 X.2.1 dL_minute_369 (by decide) ?_
    refine kGL (rest := []) (As := [.ref ho, .int 2, .int 8, .int 0, .int 0]) X hP hD hS hl.1 o95.len (q_about l hst G kk (by omega) o95 (8 : Int32) 0 0 ) sl_L_138 ⟨Nat.le_of_ble_eq_true rfl, Nat.le_of_ble_eq_true rfl, rfl, rfl⟩ ⟨by show _ ≤ 60; omega, by show _ ≤ 360; omega⟩ rfl (Nat.le_of_ble_eq_true rfl) dL_minute_370 (fun w96 r96 H locs hΦ a96 hP hD hS => ?_)
    obtain ⟨o96, rfl⟩ := hΦ
    replace a96 := a96.trans a95
    refine top_eq (y := (σ.1 7 + (RUNF σ.1 1 7 - σ.1 7))) ((qa_8 σ1.1).trans (by rw [f1]; exact add_back (σ.1 7) (RUNF σ.1 1 7))) ?_
    refine lv_iload X.1 X.2.1 dL_minute_373 (lv_at hl 5 rfl) ?_
    refine lv_icmp_ne (tgt := 416) X.1 X.2.1 dL_minute_375 (by decide) (fun c_375 => absurd (rfl) c_375) (fun c_375 => ?_)
    refine lv_iload X.1 X.2.1 dL_minute_378 (lv_at hl 1 rfl) ?_
    refine lv_aload_n X.1 X.2.1 dL_minute_380 rfl (lv_at hl 14 rfl) ?_
    refine lv_iconst (v := 3) X.1 X.2.1 dL_minute_381 (by decide) ?_
    refine lv_iload X.1 X.2.1 dL_minute_382 (lv_at hl 12 rfl) ?_
    refine lv_iconst (v := 2) X.1 X.2.1 dL_minute_384 (by decide) ?_
    refine lv_iconst (v := 0) X.1 X.2.1 dL_minute_385 (by decide) ?_
    refine kGL (rest := [.int v15]) (As := [.ref ho, .int 3, .int (nI i), .int 2, .int 0]) X hP hD hS hl.1 o96.len (q_room l hst G kk (by omega) o96 (nI i) (2 : Int32) 0 ) sl_L_138 ⟨Nat.le_of_ble_eq_true rfl, Nat.le_of_ble_eq_true rfl, rfl, rfl⟩ ⟨by show _ ≤ 60; omega, by show _ ≤ 360; omega⟩ rfl (Nat.le_of_ble_eq_true rfl) dL_minute_386 (fun w97 r97 H locs hΦ a97 hP hD hS => ?_)
    obtain ⟨o97, rfl⟩ := hΦ
    replace a97 := a97.trans a96
    refine top_eq (y := (σ1.1 (16 + 8 * i + 2))) (qr_at okA (w := 2) h1i (by decide)) ?_
    have hw := p90
    rw [nI_cl (by omega)] at hw
    unfold WP at hw
    rw [← f1, r3, ← h15] at hw
    suffices J417 : W p l e (rmG 9 188 60 360) s m args below meth c H locs (((((((((((((((((0 + 1) + 1) + 1) + 1) + 1) + 1) + 1) + 1) + 1) + 1) + 1) + 1) + 1) + 1) + 1) + 1) + 1) (((((((((((((((((0 + 6) + 6) + 6) + 6) + 6) + 6) + 6) + 6) + 6) + 6) + 6) + 6) + 6) + 6) + 6) + 6) + 6) Q (F0 m 417 ls [.int 1]) by
      refine lv_icmp_lt (tgt := 406) X.1 X.2.1 dL_minute_389 (by decide) (fun c_389 => ?_) (fun c_389 => ?_)
      · skip
        refine lv_iload X.1 X.2.1 dL_minute_406 (lv_at hl 4 rfl) ?_
        refine lv_iconst (v := 1) X.1 X.2.1 dL_minute_408 (by decide) ?_
        refine lv_icmp_eq (tgt := 416) X.1 X.2.1 dL_minute_409 (by decide) (fun c_409 => absurd c_409 (hw.2 c_389)) (fun c_409 => ?_)
        refine lv_iconst (v := 1) X.1 X.2.1 dL_minute_412 (by decide) ?_
        refine lv_goto (tgt := 417) X.1 X.2.1 dL_minute_413 (by decide) ?_
        exact J417
      · skip
        refine lv_iload X.1 X.2.1 dL_minute_392 (lv_at hl 4 rfl) ?_
        refine lv_if_eq (tgt := 412) X.1 X.2.1 dL_minute_394 (by decide) (fun c_394 => ?_) (fun c_394 => ?_)
        · skip
          refine lv_iconst (v := 1) X.1 X.2.1 dL_minute_412 (by decide) ?_
          refine lv_goto (tgt := 417) X.1 X.2.1 dL_minute_413 (by decide) ?_
          exact J417
        · skip
          refine lv_iload X.1 X.2.1 dL_minute_397 (lv_at hl 4 rfl) ?_
          refine lv_iconst (v := 1) X.1 X.2.1 dL_minute_399 (by decide) ?_
          refine lv_icmp_ne (tgt := 416) X.1 X.2.1 dL_minute_400 (by decide) (fun c_400 => absurd ((hw.1 c_389).resolve_left c_394) c_400) (fun c_400 => ?_)
          refine lv_goto (tgt := 412) X.1 X.2.1 dL_minute_403 (by decide) ?_
          refine lv_iconst (v := 1) X.1 X.2.1 dL_minute_412 (by decide) ?_
          refine lv_goto (tgt := 417) X.1 X.2.1 dL_minute_413 (by decide) ?_
          exact J417
    refine lv_istore (lv' := [(17, .int 1), (16, .int v16), (15, .int v15), (14, .int 0), (13, .int 0), (12, .int r90), (11, .int ((σ.1 7) + (RUNF σ.1 1 7 - σ.1 7))), (10, .int (RUNF σ.1 1 5 - σ.1 5)), (9, .int (σ.1 (16 + 8 * i + 4))), (8, .int (σ.1 (16 + 8 * i + 7))), (7, .int (σ.1 (16 + 8 * i + 5))), (6, .int (σ.1 (16 + 8 * i + 3))), (5, .int 4), (4, .int (nI i)), (3, .int (nI (mF σ.1))), (0, .ref ho), (1, .ref hq), (2, .int (nI N))]) X.1 X.2.1 dL_minute_417 hl (by decide) rfl (fun ls hl => ?_)
    refine lv_iload X.1 X.2.1 dL_minute_419 (lv_at hl 0 rfl) ?_
    refine lv_if_eq (tgt := 486) X.1 X.2.1 dL_minute_421 (by decide) (fun c_421 => absurd c_421 (by decide)) (fun c_421 => ?_)
    refine lv_aload_n X.1 X.2.1 dL_minute_424 rfl (lv_at hl 15 rfl) ?_
    refine lv_bipush (v := 10) X.1 X.2.1 dL_minute_425 (by decide) ?_
    refine lv_iconst (v := 0) X.1 X.2.1 dL_minute_427 (by decide) ?_
    refine lv_iconst (v := 0) X.1 X.2.1 dL_minute_428 (by decide) ?_
    refine lv_iconst (v := 0) X.1 X.2.1 dL_minute_429 (by decide) ?_
    refine kGL (rest := []) (As := [.ref ho, .int 10, .int 0, .int 0, .int 0]) X hP hD hS hl.1 o97.len (q_undo l hst G kk (by omega) o97  0 0 0 (hc1)) sl_L_138 ⟨Nat.le_of_ble_eq_true rfl, Nat.le_of_ble_eq_true rfl, rfl, rfl⟩ ⟨by show _ ≤ 60; omega, by show _ ≤ 360; omega⟩ rfl (Nat.le_of_ble_eq_true rfl) dL_minute_430 (fun w98 r98 H locs hΦ a98 hP hD hS => ?_)
    obtain ⟨o98, rfl⟩ := hΦ
    replace a98 := a98.trans a97
    refine k_goI (k_runS (rest := []) (As := [.int (nI (σ1.2.1 - 1))]) X.1 X.2.1 X.2.2.1 X.2.2.2.1 X.2.2.2.2.1 X.2.2.2.2.2.1 hP hD hS X.2.2.2.2.2.2.1 X.2.2.2.2.2.2.2.1 hl.1 (c_L_thrown l G kk (nI (σ1.2.1 - 1))) sl_L_190 ⟨Nat.le_of_ble_eq_true rfl, Nat.le_of_ble_eq_true rfl, rfl, rfl⟩ [] rfl rfl ⟨by show _ ≤ 60; omega, by show _ ≤ 360; omega⟩ rfl (Nat.le_of_ble_eq_true rfl) dL_minute_433) hP hD hS X.2.2.2.2.2.2.1 [] rfl rfl (fun H locs hP hD hS => ?_)
    replace hP : va_P G vwCl (w98 ++ w92) H := hP
    replace hD : va_D A (w98 ++ w92) := hD
    refine top_eq (y := 0) (thrown_n (by omega)) ?_
    refine lv_if_ne (tgt := 486) X.1 X.2.1 dL_minute_436 (by decide) (fun c_436 => absurd (by decide) c_436) (fun c_436 => ?_)
    refine lv_aload_n X.1 X.2.1 dL_minute_439 rfl (lv_at hl 16 rfl) ?_
    refine lv_bipush (v := 10) X.1 X.2.1 dL_minute_440 (by decide) ?_
    refine lv_iconst (v := 0) X.1 X.2.1 dL_minute_442 (by decide) ?_
    refine lv_iconst (v := 0) X.1 X.2.1 dL_minute_443 (by decide) ?_
    refine lv_iconst (v := 0) X.1 X.2.1 dL_minute_444 (by decide) ?_
    refine kGR (rest := []) (As := [.ref hq, .int 10, .int 0, .int 0, .int 0]) X hP hD hS hl.1 o92.len o98.len (q_undo l hst G kk (by omega) o92  0 0 0 (hc1)) sl_L_138 ⟨Nat.le_of_ble_eq_true rfl, Nat.le_of_ble_eq_true rfl, rfl, rfl⟩ ⟨by show _ ≤ 60; omega, by show _ ≤ 360; omega⟩ rfl (Nat.le_of_ble_eq_true rfl) dL_minute_445 (fun w99 r99 H locs hΦ a99 hP hD hS => ?_)
    obtain ⟨o99, rfl⟩ := hΦ
    replace a99 := a99.trans a92
    refine k_goI (k_runS (rest := []) (As := [.int (nI (σ1.2.1 - 1))]) X.1 X.2.1 X.2.2.1 X.2.2.2.1 X.2.2.2.2.1 X.2.2.2.2.2.1 hP hD hS X.2.2.2.2.2.2.1 X.2.2.2.2.2.2.2.1 hl.1 (c_L_thrown l G kk (nI (σ1.2.1 - 1))) sl_L_190 ⟨Nat.le_of_ble_eq_true rfl, Nat.le_of_ble_eq_true rfl, rfl, rfl⟩ [] rfl rfl ⟨by show _ ≤ 60; omega, by show _ ≤ 360; omega⟩ rfl (Nat.le_of_ble_eq_true rfl) dL_minute_448) hP hD hS X.2.2.2.2.2.2.1 [] rfl rfl (fun H locs hP hD hS => ?_)
    replace hP : va_P G vwCl (w98 ++ w99) H := hP
    replace hD : va_D A (w98 ++ w99) := hD
    refine top_eq (y := 0) (thrown_n (by omega)) ?_
    refine lv_if_ne (tgt := 486) X.1 X.2.1 dL_minute_451 (by decide) (fun c_451 => absurd (by decide) c_451) (fun c_451 => ?_)
    refine lv_aload_n X.1 X.2.1 dL_minute_454 rfl (lv_at hl 15 rfl) ?_
    refine lv_iconst (v := 3) X.1 X.2.1 dL_minute_455 (by decide) ?_
    refine lv_iload X.1 X.2.1 dL_minute_456 (lv_at hl 13 rfl) ?_
    refine lv_iconst (v := 3) X.1 X.2.1 dL_minute_458 (by decide) ?_
    refine lv_iconst (v := 0) X.1 X.2.1 dL_minute_459 (by decide) ?_
    refine kGL (rest := []) (As := [.ref ho, .int 3, .int (nI i), .int 3, .int 0]) X hP hD hS hl.1 o98.len (q_room l hst G kk (by omega) o98 (nI i) (3 : Int32) 0 ) sl_L_138 ⟨Nat.le_of_ble_eq_true rfl, Nat.le_of_ble_eq_true rfl, rfl, rfl⟩ ⟨by show _ ≤ 60; omega, by show _ ≤ 360; omega⟩ rfl (Nat.le_of_ble_eq_true rfl) dL_minute_460 (fun w100 r100 H locs hΦ a100 hP hD hS => ?_)
    obtain ⟨o100, rfl⟩ := hΦ
    replace a100 := a100.trans a98
    refine top_eq (y := (σ.1 (16 + 8 * i + 3))) ((by rw [f2]; exact qr_at ok (w := 3) hi (by decide))) ?_
    refine lv_iload X.1 X.2.1 dL_minute_463 (lv_at hl 11 rfl) ?_
    refine lv_icmp_ne (tgt := 486) X.1 X.2.1 dL_minute_465 (by decide) (fun c_465 => absurd (rfl) c_465) (fun c_465 => ?_)
    refine lv_aload_n X.1 X.2.1 dL_minute_468 rfl (lv_at hl 15 rfl) ?_
    refine lv_iconst (v := 4) X.1 X.2.1 dL_minute_469 (by decide) ?_
    refine lv_iload X.1 X.2.1 dL_minute_470 (lv_at hl 13 rfl) ?_
    refine lv_iconst (v := 0) X.1 X.2.1 dL_minute_472 (by decide) ?_
    refine lv_iconst (v := 0) X.1 X.2.1 dL_minute_473 (by decide) ?_
    refine kGL (rest := []) (As := [.ref ho, .int 4, .int (nI i), .int 0, .int 0]) X hP hD hS hl.1 o100.len (q_does l hst G kk (by omega) o100 (nI i) 0 0 ) sl_L_138 ⟨Nat.le_of_ble_eq_true rfl, Nat.le_of_ble_eq_true rfl, rfl, rfl⟩ ⟨by show _ ≤ 60; omega, by show _ ≤ 360; omega⟩ rfl (Nat.le_of_ble_eq_true rfl) dL_minute_474 (fun w101 r101 H locs hΦ a101 hP hD hS => ?_)
    obtain ⟨o101, rfl⟩ := hΦ
    replace a101 := a101.trans a100
    refine top_eq (y := 4) ((by rw [f2]; exact (qd_at ok hi).trans hd1)) ?_
    refine lv_iload X.1 X.2.1 dL_minute_477 (lv_at hl 12 rfl) ?_
    refine lv_icmp_ne (tgt := 486) X.1 X.2.1 dL_minute_479 (by decide) (fun c_479 => absurd (by decide) c_479) (fun c_479 => ?_)
    refine lv_iconst (v := 1) X.1 X.2.1 dL_minute_482 (by decide) ?_
    refine lv_goto (tgt := 487) X.1 X.2.1 dL_minute_483 (by decide) ?_
    refine W.widen (k := 60) (n := 360) (by omega) (by omega) ?_
    exact FIN _ 1 H locs ls 487 ⟨⟨_, _, rfl, o101, o99⟩, rfl⟩ (ads_app a101 a99) hP hD hS (fun _ => rfl) dL_minute_487
  · skip
    refine kGL (rest := []) (As := [.ref ho, .int 4, .int (nI i), .int 0, .int 0]) X hP hD hS hl.1 o1.len (q_does l hst G kk (by omega) o1 (nI i) 0 0 ) sl_L_138 ⟨Nat.le_of_ble_eq_true rfl, Nat.le_of_ble_eq_true rfl, rfl, rfl⟩ ⟨by show _ ≤ 60; omega, by show _ ≤ 360; omega⟩ rfl (Nat.le_of_ble_eq_true rfl) dL_minute_20 (fun w102 r102 H locs hΦ a102 hP hD hS => ?_)
    obtain ⟨o102, rfl⟩ := hΦ
    replace a102 := a102.trans a1
    refine top_eq (y := 5) ((qd_at ok hi).trans hd1) ?_
    refine lv_istore (lv' := [(5, .int 5), (4, .int (nI i)), (3, .int (nI (mF σ.1))), (0, .ref ho), (1, .ref hq), (2, .int (nI N))]) X.1 X.2.1 dL_minute_23 hl (by decide) rfl (fun ls hl => ?_)
    refine lv_aload_n X.1 X.2.1 dL_minute_25 rfl (lv_at hl 3 rfl) ?_
    refine lv_iconst (v := 3) X.1 X.2.1 dL_minute_26 (by decide) ?_
    refine lv_iload X.1 X.2.1 dL_minute_27 (lv_at hl 1 rfl) ?_
    refine lv_iconst (v := 3) X.1 X.2.1 dL_minute_29 (by decide) ?_
    refine lv_iconst (v := 0) X.1 X.2.1 dL_minute_30 (by decide) ?_
    refine kGL (rest := []) (As := [.ref ho, .int 3, .int (nI i), .int 3, .int 0]) X hP hD hS hl.1 o102.len (q_room l hst G kk (by omega) o102 (nI i) (3 : Int32) 0 ) sl_L_138 ⟨Nat.le_of_ble_eq_true rfl, Nat.le_of_ble_eq_true rfl, rfl, rfl⟩ ⟨by show _ ≤ 60; omega, by show _ ≤ 360; omega⟩ rfl (Nat.le_of_ble_eq_true rfl) dL_minute_31 (fun w103 r103 H locs hΦ a103 hP hD hS => ?_)
    obtain ⟨o103, rfl⟩ := hΦ
    replace a103 := a103.trans a102
    refine top_eq (y := (σ.1 (16 + 8 * i + 3))) (qr_at ok (w := 3) hi (by decide)) ?_
    refine lv_istore (lv' := [(6, .int (σ.1 (16 + 8 * i + 3))), (5, .int 5), (4, .int (nI i)), (3, .int (nI (mF σ.1))), (0, .ref ho), (1, .ref hq), (2, .int (nI N))]) X.1 X.2.1 dL_minute_34 hl (by decide) rfl (fun ls hl => ?_)
    refine lv_aload_n X.1 X.2.1 dL_minute_36 rfl (lv_at hl 4 rfl) ?_
    refine lv_iconst (v := 3) X.1 X.2.1 dL_minute_37 (by decide) ?_
    refine lv_iload X.1 X.2.1 dL_minute_38 (lv_at hl 2 rfl) ?_
    refine lv_iconst (v := 5) X.1 X.2.1 dL_minute_40 (by decide) ?_
    refine lv_iconst (v := 0) X.1 X.2.1 dL_minute_41 (by decide) ?_
    refine kGL (rest := []) (As := [.ref ho, .int 3, .int (nI i), .int 5, .int 0]) X hP hD hS hl.1 o103.len (q_room l hst G kk (by omega) o103 (nI i) (5 : Int32) 0 ) sl_L_138 ⟨Nat.le_of_ble_eq_true rfl, Nat.le_of_ble_eq_true rfl, rfl, rfl⟩ ⟨by show _ ≤ 60; omega, by show _ ≤ 360; omega⟩ rfl (Nat.le_of_ble_eq_true rfl) dL_minute_42 (fun w104 r104 H locs hΦ a104 hP hD hS => ?_)
    obtain ⟨o104, rfl⟩ := hΦ
    replace a104 := a104.trans a103
    refine top_eq (y := (σ.1 (16 + 8 * i + 5))) (qr_at ok (w := 5) hi (by decide)) ?_
    refine lv_istore (lv' := [(7, .int (σ.1 (16 + 8 * i + 5))), (6, .int (σ.1 (16 + 8 * i + 3))), (5, .int 5), (4, .int (nI i)), (3, .int (nI (mF σ.1))), (0, .ref ho), (1, .ref hq), (2, .int (nI N))]) X.1 X.2.1 dL_minute_45 hl (by decide) rfl (fun ls hl => ?_)
    refine lv_aload_n X.1 X.2.1 dL_minute_47 rfl (lv_at hl 5 rfl) ?_
    refine lv_iconst (v := 3) X.1 X.2.1 dL_minute_48 (by decide) ?_
    refine lv_iload X.1 X.2.1 dL_minute_49 (lv_at hl 3 rfl) ?_
    refine lv_bipush (v := 7) X.1 X.2.1 dL_minute_51 (by decide) ?_
    refine lv_iconst (v := 0) X.1 X.2.1 dL_minute_53 (by decide) ?_
    refine kGL (rest := []) (As := [.ref ho, .int 3, .int (nI i), .int 7, .int 0]) X hP hD hS hl.1 o104.len (q_room l hst G kk (by omega) o104 (nI i) (7 : Int32) 0 ) sl_L_138 ⟨Nat.le_of_ble_eq_true rfl, Nat.le_of_ble_eq_true rfl, rfl, rfl⟩ ⟨by show _ ≤ 60; omega, by show _ ≤ 360; omega⟩ rfl (Nat.le_of_ble_eq_true rfl) dL_minute_54 (fun w105 r105 H locs hΦ a105 hP hD hS => ?_)
    obtain ⟨o105, rfl⟩ := hΦ
    replace a105 := a105.trans a104
    refine top_eq (y := (σ.1 (16 + 8 * i + 7))) (qr_at ok (w := 7) hi (by decide)) ?_
    refine lv_istore (lv' := [(8, .int (σ.1 (16 + 8 * i + 7))), (7, .int (σ.1 (16 + 8 * i + 5))), (6, .int (σ.1 (16 + 8 * i + 3))), (5, .int 5), (4, .int (nI i)), (3, .int (nI (mF σ.1))), (0, .ref ho), (1, .ref hq), (2, .int (nI N))]) X.1 X.2.1 dL_minute_57 hl (by decide) rfl (fun ls hl => ?_)
    refine lv_aload_n X.1 X.2.1 dL_minute_59 rfl (lv_at hl 6 rfl) ?_
    refine lv_iconst (v := 3) X.1 X.2.1 dL_minute_60 (by decide) ?_
    refine lv_iload X.1 X.2.1 dL_minute_61 (lv_at hl 4 rfl) ?_
    refine lv_iconst (v := 4) X.1 X.2.1 dL_minute_63 (by decide) ?_
    refine lv_iconst (v := 0) X.1 X.2.1 dL_minute_64 (by decide) ?_
    refine kGL (rest := []) (As := [.ref ho, .int 3, .int (nI i), .int 4, .int 0]) X hP hD hS hl.1 o105.len (q_room l hst G kk (by omega) o105 (nI i) (4 : Int32) 0 ) sl_L_138 ⟨Nat.le_of_ble_eq_true rfl, Nat.le_of_ble_eq_true rfl, rfl, rfl⟩ ⟨by show _ ≤ 60; omega, by show _ ≤ 360; omega⟩ rfl (Nat.le_of_ble_eq_true rfl) dL_minute_65 (fun w106 r106 H locs hΦ a106 hP hD hS => ?_)
    obtain ⟨o106, rfl⟩ := hΦ
    replace a106 := a106.trans a105
    refine top_eq (y := (σ.1 (16 + 8 * i + 4))) (qr_at ok (w := 4) hi (by decide)) ?_
    refine lv_istore (lv' := [(9, .int (σ.1 (16 + 8 * i + 4))), (8, .int (σ.1 (16 + 8 * i + 7))), (7, .int (σ.1 (16 + 8 * i + 5))), (6, .int (σ.1 (16 + 8 * i + 3))), (5, .int 5), (4, .int (nI i)), (3, .int (nI (mF σ.1))), (0, .ref ho), (1, .ref hq), (2, .int (nI N))]) X.1 X.2.1 dL_minute_68 hl (by decide) rfl (fun ls hl => ?_)
    refine lv_aload_n X.1 X.2.1 dL_minute_70 rfl (lv_at hl 7 rfl) ?_
    refine lv_bipush (v := 12) X.1 X.2.1 dL_minute_71 (by decide) ?_
    refine lv_iconst (v := 1) X.1 X.2.1 dL_minute_73 (by decide) ?_
    refine lv_iconst (v := 0) X.1 X.2.1 dL_minute_74 (by decide) ?_
    refine lv_iconst (v := 0) X.1 X.2.1 dL_minute_75 (by decide) ?_
    refine kGL (rest := []) (As := [.ref ho, .int 12, .int 1, .int 0, .int 0]) X hP hD hS hl.1 o106.len (q_coming l hst G kk (by omega) o106 (1 : Int32) (0 : Int32) 0 (rfl) (Or.inl rfl)) sl_L_138 ⟨Nat.le_of_ble_eq_true rfl, Nat.le_of_ble_eq_true rfl, rfl, rfl⟩ ⟨by show _ ≤ 60; omega, by show _ ≤ 360; omega⟩ rfl (Nat.le_of_ble_eq_true rfl) dL_minute_76 (fun w107 r107 H locs hΦ a107 hP hD hS => ?_)
    obtain ⟨o107, rfl⟩ := hΦ
    replace a107 := a107.trans a106
    refine top_eq (y := (RUNF σ.1 1 5 - σ.1 5)) (if_pos rfl) ?_
    refine lv_istore (lv' := [(10, .int (RUNF σ.1 1 5 - σ.1 5)), (9, .int (σ.1 (16 + 8 * i + 4))), (8, .int (σ.1 (16 + 8 * i + 7))), (7, .int (σ.1 (16 + 8 * i + 5))), (6, .int (σ.1 (16 + 8 * i + 3))), (5, .int 5), (4, .int (nI i)), (3, .int (nI (mF σ.1))), (0, .ref ho), (1, .ref hq), (2, .int (nI N))]) X.1 X.2.1 dL_minute_79 hl (by decide) rfl (fun ls hl => ?_)
    refine lv_aload_n X.1 X.2.1 dL_minute_81 rfl (lv_at hl 8 rfl) ?_
    refine lv_iconst (v := 2) X.1 X.2.1 dL_minute_82 (by decide) ?_
    refine lv_bipush (v := 8) X.1 X.2.1 dL_minute_83 (by decide) ?_
    refine lv_iconst (v := 0) X.1 X.2.1 dL_minute_85 (by decide) ?_
    refine lv_iconst (v := 0) X.1 X.2.1 dL_minute_86 (by decide) ?_
    refine kGL (rest := []) (As := [.ref ho, .int 2, .int 8, .int 0, .int 0]) X hP hD hS hl.1 o107.len (q_about l hst G kk (by omega) o107 (8 : Int32) 0 0 ) sl_L_138 ⟨Nat.le_of_ble_eq_true rfl, Nat.le_of_ble_eq_true rfl, rfl, rfl⟩ ⟨by show _ ≤ 60; omega, by show _ ≤ 360; omega⟩ rfl (Nat.le_of_ble_eq_true rfl) dL_minute_87 (fun w108 r108 H locs hΦ a108 hP hD hS => ?_)
    obtain ⟨o108, rfl⟩ := hΦ
    replace a108 := a108.trans a107
    refine top_eq (y := (σ.1 7)) (qa_8 σ.1) ?_
    refine lv_aload_n X.1 X.2.1 dL_minute_90 rfl (lv_at hl 8 rfl) ?_
    refine lv_bipush (v := 12) X.1 X.2.1 dL_minute_91 (by decide) ?_
    refine lv_iconst (v := 1) X.1 X.2.1 dL_minute_93 (by decide) ?_
    refine lv_iconst (v := 3) X.1 X.2.1 dL_minute_94 (by decide) ?_
    refine lv_iconst (v := 0) X.1 X.2.1 dL_minute_95 (by decide) ?_
    refine kGL (rest := [.int (σ.1 7)]) (As := [.ref ho, .int 12, .int 1, .int 3, .int 0]) X hP hD hS hl.1 o108.len (q_coming l hst G kk (by omega) o108 (1 : Int32) (3 : Int32) 0 (rfl) (Or.inr rfl)) sl_L_138 ⟨Nat.le_of_ble_eq_true rfl, Nat.le_of_ble_eq_true rfl, rfl, rfl⟩ ⟨by show _ ≤ 60; omega, by show _ ≤ 360; omega⟩ rfl (Nat.le_of_ble_eq_true rfl) dL_minute_96 (fun w109 r109 H locs hΦ a109 hP hD hS => ?_)
    obtain ⟨o109, rfl⟩ := hΦ
    replace a109 := a109.trans a108
    refine top_eq (y := (RUNF σ.1 1 7 - σ.1 7)) (if_neg (by decide)) ?_
    refine lv_iadd X.1 X.2.1 dL_minute_99 ?_
    refine lv_istore (lv' := [(11, .int ((σ.1 7) + (RUNF σ.1 1 7 - σ.1 7))), (10, .int (RUNF σ.1 1 5 - σ.1 5)), (9, .int (σ.1 (16 + 8 * i + 4))), (8, .int (σ.1 (16 + 8 * i + 7))), (7, .int (σ.1 (16 + 8 * i + 5))), (6, .int (σ.1 (16 + 8 * i + 3))), (5, .int 5), (4, .int (nI i)), (3, .int (nI (mF σ.1))), (0, .ref ho), (1, .ref hq), (2, .int (nI N))]) X.1 X.2.1 dL_minute_100 hl (by decide) rfl (fun ls hl => ?_)
    refine lv_aload_n X.1 X.2.1 dL_minute_102 rfl (lv_at hl 9 rfl) ?_
    refine lv_bipush (v := 11) X.1 X.2.1 dL_minute_103 (by decide) ?_
    refine lv_iload X.1 X.2.1 dL_minute_105 (lv_at hl 7 rfl) ?_
    refine lv_iconst (v := 0) X.1 X.2.1 dL_minute_107 (by decide) ?_
    refine lv_iconst (v := 0) X.1 X.2.1 dL_minute_108 (by decide) ?_
    refine kGL (rest := []) (As := [.ref ho, .int 11, .int (nI i), .int 0, .int 0]) X hP hD hS hl.1 o109.len (q_warm l hst G kk (by omega) o109 (nI i) 0 0 (ir_yes ok hi)) sl_L_138 ⟨Nat.le_of_ble_eq_true rfl, Nat.le_of_ble_eq_true rfl, rfl, rfl⟩ ⟨by show _ ≤ 60; omega, by show _ ≤ 360; omega⟩ rfl (Nat.le_of_ble_eq_true rfl) dL_minute_109 (fun w110 r110 H locs hΦ a110 hP hD hS => ?_)
    obtain ⟨o110, p110⟩ := hΦ
    replace a110 := a110.trans a109
    refine lv_istore (lv' := [(12, .int r110), (11, .int ((σ.1 7) + (RUNF σ.1 1 7 - σ.1 7))), (10, .int (RUNF σ.1 1 5 - σ.1 5)), (9, .int (σ.1 (16 + 8 * i + 4))), (8, .int (σ.1 (16 + 8 * i + 7))), (7, .int (σ.1 (16 + 8 * i + 5))), (6, .int (σ.1 (16 + 8 * i + 3))), (5, .int 5), (4, .int (nI i)), (3, .int (nI (mF σ.1))), (0, .ref ho), (1, .ref hq), (2, .int (nI N))]) X.1 X.2.1 dL_minute_112 hl (by decide) rfl (fun ls hl => ?_)
    refine lv_iload X.1 X.2.1 dL_minute_114 (lv_at hl 7 rfl) ?_
    refine lv_iconst (v := 1) X.1 X.2.1 dL_minute_116 (by decide) ?_
    refine lv_icmp_eq (tgt := 126) X.1 X.2.1 dL_minute_117 (by decide) (fun c_117 => absurd c_117 (by decide)) (fun c_117 => ?_)
    refine lv_iload X.1 X.2.1 dL_minute_120 (lv_at hl 7 rfl) ?_
    refine lv_iconst (v := 3) X.1 X.2.1 dL_minute_122 (by decide) ?_
    refine lv_icmp_ne (tgt := 130) X.1 X.2.1 dL_minute_123 (by decide) (fun c_123 => ?_) (fun c_123 => absurd c_123 (by decide))
    refine lv_iconst (v := 0) X.1 X.2.1 dL_minute_130 (by decide) ?_
    refine lv_istore (lv' := [(13, .int 0), (12, .int r110), (11, .int ((σ.1 7) + (RUNF σ.1 1 7 - σ.1 7))), (10, .int (RUNF σ.1 1 5 - σ.1 5)), (9, .int (σ.1 (16 + 8 * i + 4))), (8, .int (σ.1 (16 + 8 * i + 7))), (7, .int (σ.1 (16 + 8 * i + 5))), (6, .int (σ.1 (16 + 8 * i + 3))), (5, .int 5), (4, .int (nI i)), (3, .int (nI (mF σ.1))), (0, .ref ho), (1, .ref hq), (2, .int (nI N))]) X.1 X.2.1 dL_minute_131 hl (by decide) rfl (fun ls hl => ?_)
    refine lv_iload X.1 X.2.1 dL_minute_133 (lv_at hl 8 rfl) ?_
    refine lv_if_eq (tgt := 150) X.1 X.2.1 dL_minute_135 (by decide) (fun c_135 => absurd c_135 (by decide)) (fun c_135 => ?_)
    refine lv_iload X.1 X.2.1 dL_minute_138 (lv_at hl 8 rfl) ?_
    refine lv_iconst (v := 2) X.1 X.2.1 dL_minute_140 (by decide) ?_
    refine lv_icmp_eq (tgt := 150) X.1 X.2.1 dL_minute_141 (by decide) (fun c_141 => absurd c_141 (by decide)) (fun c_141 => ?_)
    refine lv_iload X.1 X.2.1 dL_minute_144 (lv_at hl 8 rfl) ?_
    refine lv_iconst (v := 5) X.1 X.2.1 dL_minute_146 (by decide) ?_
    refine lv_icmp_ne (tgt := 154) X.1 X.2.1 dL_minute_147 (by decide) (fun c_147 => absurd (by decide) c_147) (fun c_147 => ?_)
    refine lv_iconst (v := 1) X.1 X.2.1 dL_minute_150 (by decide) ?_
    refine lv_goto (tgt := 155) X.1 X.2.1 dL_minute_151 (by decide) ?_
    refine lv_istore (lv' := [(14, .int 1), (13, .int 0), (12, .int r110), (11, .int ((σ.1 7) + (RUNF σ.1 1 7 - σ.1 7))), (10, .int (RUNF σ.1 1 5 - σ.1 5)), (9, .int (σ.1 (16 + 8 * i + 4))), (8, .int (σ.1 (16 + 8 * i + 7))), (7, .int (σ.1 (16 + 8 * i + 5))), (6, .int (σ.1 (16 + 8 * i + 3))), (5, .int 5), (4, .int (nI i)), (3, .int (nI (mF σ.1))), (0, .ref ho), (1, .ref hq), (2, .int (nI N))]) X.1 X.2.1 dL_minute_155 hl (by decide) rfl (fun ls hl => ?_)
    refine lv_iload X.1 X.2.1 dL_minute_157 (lv_at hl 8 rfl) ?_
    refine lv_iload X.1 X.2.1 dL_minute_159 (lv_at hl 1 rfl) ?_
    refine lv_if_eq (tgt := 175) X.1 X.2.1 dL_minute_161 (by decide) (fun c_161 => ?_) (fun c_161 => absurd (by decide) c_161)
    refine lv_iload X.1 X.2.1 dL_minute_175 (lv_at hl 0 rfl) ?_
    refine lv_if_eq (tgt := 185) X.1 X.2.1 dL_minute_177 (by decide) (fun c_177 => absurd c_177 (by decide)) (fun c_177 => ?_)
    refine lv_bipush (v := 6) X.1 X.2.1 dL_minute_180 (by decide) ?_
    refine lv_goto (tgt := 186) X.1 X.2.1 dL_minute_182 (by decide) ?_
    refine lv_iadd X.1 X.2.1 dL_minute_186 ?_
    refine lv_iconst (v := 4) X.1 X.2.1 dL_minute_187 (by decide) ?_
    refine lv_iload X.1 X.2.1 dL_minute_188 (lv_at hl 5 rfl) ?_
    refine lv_imul X.1 X.2.1 dL_minute_190 ?_
    refine lv_iadd X.1 X.2.1 dL_minute_191 ?_
    refine lv_istore (lv' := [(15, .int (((σ.1 (16 + 8 * i + 3)) + 6) + (4 * (σ.1 (16 + 8 * i + 4))))), (14, .int 1), (13, .int 0), (12, .int r110), (11, .int ((σ.1 7) + (RUNF σ.1 1 7 - σ.1 7))), (10, .int (RUNF σ.1 1 5 - σ.1 5)), (9, .int (σ.1 (16 + 8 * i + 4))), (8, .int (σ.1 (16 + 8 * i + 7))), (7, .int (σ.1 (16 + 8 * i + 5))), (6, .int (σ.1 (16 + 8 * i + 3))), (5, .int 5), (4, .int (nI i)), (3, .int (nI (mF σ.1))), (0, .ref ho), (1, .ref hq), (2, .int (nI N))]) X.1 X.2.1 dL_minute_192 hl (by decide) rfl (fun ls hl => ?_)
    refine lv_iload X.1 X.2.1 dL_minute_194 (lv_at hl 0 rfl) ?_
    refine lv_sipush (v := 400) X.1 X.2.1 dL_minute_196 (by decide) ?_
    have eT : sX8_clamp ((((σ.1 (16 + 8 * i + 3)) + 6) + (4 * (σ.1 (16 + 8 * i + 4))))) (-400) 400 = Tn σ.1 (JB σ.1 i) i := by rw [hd1]; exact tn_val (x := 5) hz
    suffices J15 : ∀ v15 : Int32, v15 = Tn σ.1 (JB σ.1 i) i → W p l e (rmG 9 188 60 360) s m args below meth c H locs ((((((((((0 + 1) + 1) + 1) + 1) + 1) + 1) + 1) + 1) + 1) + 1) ((((((((((0 + 6) + 6) + 6) + 6) + 6) + 6) + 6) + 6) + 6) + 6) Q (F0 m 224 ls [.int v15]) by
      refine lv_icmp_le (tgt := 208) X.1 X.2.1 dL_minute_199 (by decide) (fun c_199 => ?_) (fun c_199 => ?_)
      · skip
        refine lv_iload X.1 X.2.1 dL_minute_208 (lv_at hl 0 rfl) ?_
        refine lv_sipush (v := (-400)) X.1 X.2.1 dL_minute_210 (by decide) ?_
        refine lv_icmp_ge (tgt := 222) X.1 X.2.1 dL_minute_213 (by decide) (fun c_213 => ?_) (fun c_213 => ?_)
        · skip
          refine lv_iload X.1 X.2.1 dL_minute_222 (lv_at hl 0 rfl) ?_
          exact J15 _ ((cl_mid c_199 c_213).trans eT)
        · skip
          refine lv_sipush (v := (-400)) X.1 X.2.1 dL_minute_216 (by decide) ?_
          refine lv_goto (tgt := 224) X.1 X.2.1 dL_minute_219 (by decide) ?_
          exact J15 _ ((cl_lo c_213).trans eT)
      · skip
        refine lv_sipush (v := 400) X.1 X.2.1 dL_minute_202 (by decide) ?_
        refine lv_goto (tgt := 224) X.1 X.2.1 dL_minute_205 (by decide) ?_
        exact J15 _ ((cl_hi c_199).trans eT)
    intro v15 h15
    refine lv_istore (lv' := [(15, .int v15), (14, .int 1), (13, .int 0), (12, .int r110), (11, .int ((σ.1 7) + (RUNF σ.1 1 7 - σ.1 7))), (10, .int (RUNF σ.1 1 5 - σ.1 5)), (9, .int (σ.1 (16 + 8 * i + 4))), (8, .int (σ.1 (16 + 8 * i + 7))), (7, .int (σ.1 (16 + 8 * i + 5))), (6, .int (σ.1 (16 + 8 * i + 3))), (5, .int 5), (4, .int (nI i)), (3, .int (nI (mF σ.1))), (0, .ref ho), (1, .ref hq), (2, .int (nI N))]) X.1 X.2.1 dL_minute_224 hl (by decide) rfl (fun ls hl => ?_)
    refine lv_iload X.1 X.2.1 dL_minute_226 (lv_at hl 1 rfl) ?_
    refine lv_if_eq (tgt := 250) X.1 X.2.1 dL_minute_228 (by decide) (fun c_228 => absurd c_228 (by decide)) (fun c_228 => ?_)
    refine lv_iload X.1 X.2.1 dL_minute_231 (lv_at hl 8 rfl) ?_
    refine lv_bipush (v := 10) X.1 X.2.1 dL_minute_233 (by decide) ?_
    suffices J16 : ∀ v16 : Int32, (if v16 ≤ 100 then v16 else 100) = Fn σ.1 (JB σ.1 i) i → W p l e (rmG 9 188 60 360) s m args below meth c H locs ((((((((((0 + 1) + 1) + 1) + 1) + 1) + 1) + 1) + 1) + 1) + 1) ((((((((((0 + 6) + 6) + 6) + 6) + 6) + 6) + 6) + 6) + 6) + 6) Q (F0 m 268 ls [.int v16]) by
      refine lv_icmp_le (tgt := 246) X.1 X.2.1 dL_minute_235 (by decide) (fun c_235 => ?_) (fun c_235 => ?_)
      · skip
        refine lv_iconst (v := 0) X.1 X.2.1 dL_minute_246 (by decide) ?_
        refine lv_goto (tgt := 268) X.1 X.2.1 dL_minute_247 (by decide) ?_
        exact J16 _ (by rw [hd1]; exact fn_hot0 hf0 (by decide) c_235)
      · skip
        refine lv_iload X.1 X.2.1 dL_minute_238 (lv_at hl 8 rfl) ?_
        refine lv_bipush (v := 10) X.1 X.2.1 dL_minute_240 (by decide) ?_
        refine lv_isub X.1 X.2.1 dL_minute_242 ?_
        refine lv_goto (tgt := 268) X.1 X.2.1 dL_minute_243 (by decide) ?_
        exact J16 _ (by rw [hd1]; exact fn_hot1 hf1 (by decide) c_235)
    intro v16 h16
    refine lv_istore (lv' := [(16, .int v16), (15, .int v15), (14, .int 1), (13, .int 0), (12, .int r110), (11, .int ((σ.1 7) + (RUNF σ.1 1 7 - σ.1 7))), (10, .int (RUNF σ.1 1 5 - σ.1 5)), (9, .int (σ.1 (16 + 8 * i + 4))), (8, .int (σ.1 (16 + 8 * i + 7))), (7, .int (σ.1 (16 + 8 * i + 5))), (6, .int (σ.1 (16 + 8 * i + 3))), (5, .int 5), (4, .int (nI i)), (3, .int (nI (mF σ.1))), (0, .ref ho), (1, .ref hq), (2, .int (nI N))]) X.1 X.2.1 dL_minute_268 hl (by decide) rfl (fun ls hl => ?_)
    refine lv_aload_n X.1 X.2.1 dL_minute_270 rfl (lv_at hl 14 rfl) ?_
    refine lv_bipush (v := 8) X.1 X.2.1 dL_minute_271 (by decide) ?_
    refine lv_iconst (v := 1) X.1 X.2.1 dL_minute_273 (by decide) ?_
    refine lv_iconst (v := 0) X.1 X.2.1 dL_minute_274 (by decide) ?_
    refine lv_iconst (v := 0) X.1 X.2.1 dL_minute_275 (by decide) ?_
    refine kGL (rest := []) (As := [.ref ho, .int 8, .int 1, .int 0, .int 0]) X hP hD hS hl.1 o110.len (q_run l hst G kk (by omega) o110 (1 : Int32) 0 0 (by decide)) sl_L_138 ⟨Nat.le_of_ble_eq_true rfl, Nat.le_of_ble_eq_true rfl, rfl, rfl⟩ ⟨by show _ ≤ 60; omega, by show _ ≤ 360; omega⟩ rfl (Nat.le_of_ble_eq_true rfl) dL_minute_276 (fun w111 r111 H locs hΦ a111 hP hD hS => ?_)
    obtain ⟨o111, rfl⟩ := hΦ
    replace a111 := a111.trans a110
    replace o111 : OB kk (B + 60) σ1 ho w111 := by rw [hσ]; exact o111
    have okA := o111.row.1
    have h1i : i < mF σ1.1 := by rw [m1]; exact hi
    refine top_eq (y := (RUNF σ.1 1 5 - σ.1 5)) (by rw [show (1 : Int32).toNatClampNeg = 1 from rfl]) ?_
    refine lv_iload X.1 X.2.1 dL_minute_279 (lv_at hl 6 rfl) ?_
    refine lv_icmp_ne (tgt := 416) X.1 X.2.1 dL_minute_281 (by decide) (fun c_281 => absurd (rfl) c_281) (fun c_281 => ?_)
    refine lv_aload_n X.1 X.2.1 dL_minute_284 rfl (lv_at hl 15 rfl) ?_
    refine lv_bipush (v := 8) X.1 X.2.1 dL_minute_285 (by decide) ?_
    refine lv_iconst (v := 1) X.1 X.2.1 dL_minute_287 (by decide) ?_
    refine lv_iconst (v := 0) X.1 X.2.1 dL_minute_288 (by decide) ?_
    refine lv_iconst (v := 0) X.1 X.2.1 dL_minute_289 (by decide) ?_
    refine kGR (rest := []) (As := [.ref hq, .int 8, .int 1, .int 0, .int 0]) X hP hD hS hl.1 ob.len o111.len (q_run l hst G kk (by omega) ob (1 : Int32) 0 0 (by decide)) sl_L_138 ⟨Nat.le_of_ble_eq_true rfl, Nat.le_of_ble_eq_true rfl, rfl, rfl⟩ ⟨by show _ ≤ 60; omega, by show _ ≤ 360; omega⟩ rfl (Nat.le_of_ble_eq_true rfl) dL_minute_290 (fun w112 r112 H locs hΦ a112 hP hD hS => ?_)
    obtain ⟨o112, rfl⟩ := hΦ
    replace a112 := a112.trans b0
    replace o112 : OB kk (B + 60) σ1 hq w112 := by rw [hσ]; exact o112
    refine top_eq (y := (RUNF σ.1 1 5 - σ.1 5)) (by rw [show (1 : Int32).toNatClampNeg = 1 from rfl]) ?_
    refine lv_iload X.1 X.2.1 dL_minute_293 (lv_at hl 6 rfl) ?_
    refine lv_icmp_ne (tgt := 416) X.1 X.2.1 dL_minute_295 (by decide) (fun c_295 => absurd (rfl) c_295) (fun c_295 => ?_)
    refine lv_aload_n X.1 X.2.1 dL_minute_298 rfl (lv_at hl 14 rfl) ?_
    refine lv_iconst (v := 3) X.1 X.2.1 dL_minute_299 (by decide) ?_
    refine lv_iload X.1 X.2.1 dL_minute_300 (lv_at hl 12 rfl) ?_
    refine lv_iconst (v := 3) X.1 X.2.1 dL_minute_302 (by decide) ?_
    refine lv_iconst (v := 0) X.1 X.2.1 dL_minute_303 (by decide) ?_
    refine kGL (rest := []) (As := [.ref ho, .int 3, .int (nI i), .int 3, .int 0]) X hP hD hS hl.1 o111.len (q_room l hst G kk (by omega) o111 (nI i) (3 : Int32) 0 ) sl_L_138 ⟨Nat.le_of_ble_eq_true rfl, Nat.le_of_ble_eq_true rfl, rfl, rfl⟩ ⟨by show _ ≤ 60; omega, by show _ ≤ 360; omega⟩ rfl (Nat.le_of_ble_eq_true rfl) dL_minute_304 (fun w113 r113 H locs hΦ a113 hP hD hS => ?_)
    obtain ⟨o113, rfl⟩ := hΦ
    replace a113 := a113.trans a111
    refine top_eq (y := (Tn σ.1 (JB σ.1 i) i)) ((qr_at okA (w := 3) h1i (by decide)).trans r3) ?_
    refine lv_iload X.1 X.2.1 dL_minute_307 (lv_at hl 1 rfl) ?_
    refine lv_icmp_ne (tgt := 416) X.1 X.2.1 dL_minute_309 (by decide) (fun c_309 => absurd (h15.symm) c_309) (fun c_309 => ?_)
    refine lv_aload_n X.1 X.2.1 dL_minute_312 rfl (lv_at hl 14 rfl) ?_
    refine lv_iconst (v := 3) X.1 X.2.1 dL_minute_313 (by decide) ?_
    refine lv_iload X.1 X.2.1 dL_minute_314 (lv_at hl 12 rfl) ?_
    refine lv_iconst (v := 5) X.1 X.2.1 dL_minute_316 (by decide) ?_
    refine lv_iconst (v := 0) X.1 X.2.1 dL_minute_317 (by decide) ?_
    refine kGL (rest := []) (As := [.ref ho, .int 3, .int (nI i), .int 5, .int 0]) X hP hD hS hl.1 o113.len (q_room l hst G kk (by omega) o113 (nI i) (5 : Int32) 0 ) sl_L_138 ⟨Nat.le_of_ble_eq_true rfl, Nat.le_of_ble_eq_true rfl, rfl, rfl⟩ ⟨by show _ ≤ 60; omega, by show _ ≤ 360; omega⟩ rfl (Nat.le_of_ble_eq_true rfl) dL_minute_318 (fun w114 r114 H locs hΦ a114 hP hD hS => ?_)
    obtain ⟨o114, rfl⟩ := hΦ
    replace a114 := a114.trans a113
    refine top_eq (y := (Fn σ.1 (JB σ.1 i) i)) ((qr_at okA (w := 5) h1i (by decide)).trans r5) ?_
    refine lv_iload X.1 X.2.1 dL_minute_321 (lv_at hl 0 rfl) ?_
    refine lv_bipush (v := 100) X.1 X.2.1 dL_minute_323 (by decide) ?_
    suffices J338 : W p l e (rmG 9 188 60 360) s m args below meth c H locs ((((((((((((((0 + 1) + 1) + 1) + 1) + 1) + 1) + 1) + 1) + 1) + 1) + 1) + 1) + 1) + 1) ((((((((((((((0 + 6) + 6) + 6) + 6) + 6) + 6) + 6) + 6) + 6) + 6) + 6) + 6) + 6) + 6) Q (F0 m 338 ls []) by
      refine lv_icmp_le (tgt := 333) X.1 X.2.1 dL_minute_325 (by decide) (fun c_325 => ?_) (fun c_325 => ?_)
      · skip
        refine lv_iload X.1 X.2.1 dL_minute_333 (lv_at hl 0 rfl) ?_
        refine lv_icmp_ne (tgt := 416) X.1 X.2.1 dL_minute_335 (by decide) (fun c_335 => absurd ((by rw [if_pos c_325] at h16; exact h16.symm)) c_335) (fun c_335 => ?_)
        exact J338
      · skip
        refine lv_bipush (v := 100) X.1 X.2.1 dL_minute_328 (by decide) ?_
        refine lv_goto (tgt := 335) X.1 X.2.1 dL_minute_330 (by decide) ?_
        refine lv_icmp_ne (tgt := 416) X.1 X.2.1 dL_minute_335 (by decide) (fun c_335 => absurd ((by rw [if_neg c_325] at h16; exact h16.symm)) c_335) (fun c_335 => ?_)
        exact J338
    refine lv_aload_n X.1 X.2.1 dL_minute_338 rfl (lv_at hl 14 rfl) ?_
    refine lv_iconst (v := 3) X.1 X.2.1 dL_minute_339 (by decide) ?_
    refine lv_iload X.1 X.2.1 dL_minute_340 (lv_at hl 12 rfl) ?_
    refine lv_bipush (v := 7) X.1 X.2.1 dL_minute_342 (by decide) ?_
    refine lv_iconst (v := 0) X.1 X.2.1 dL_minute_344 (by decide) ?_
    refine kGL (rest := []) (As := [.ref ho, .int 3, .int (nI i), .int 7, .int 0]) X hP hD hS hl.1 o114.len (q_room l hst G kk (by omega) o114 (nI i) (7 : Int32) 0 ) sl_L_138 ⟨Nat.le_of_ble_eq_true rfl, Nat.le_of_ble_eq_true rfl, rfl, rfl⟩ ⟨by show _ ≤ 60; omega, by show _ ≤ 360; omega⟩ rfl (Nat.le_of_ble_eq_true rfl) dL_minute_345 (fun w115 r115 H locs hΦ a115 hP hD hS => ?_)
    obtain ⟨o115, rfl⟩ := hΦ
    replace a115 := a115.trans a114
    refine top_eq (y := (σ.1 (16 + 8 * i + 7) + 0)) (((qr_at okA (w := 7) h1i (by decide)).trans r7).trans (by rw [hd1]; rfl)) ?_
    refine lv_iload X.1 X.2.1 dL_minute_348 (lv_at hl 8 rfl) ?_
    refine lv_iload X.1 X.2.1 dL_minute_350 (lv_at hl 3 rfl) ?_
    refine lv_if_eq (tgt := 359) X.1 X.2.1 dL_minute_352 (by decide) (fun c_352 => ?_) (fun c_352 => absurd (by decide) c_352)
    refine lv_iconst (v := 0) X.1 X.2.1 dL_minute_359 (by decide) ?_
    refine lv_iadd X.1 X.2.1 dL_minute_360 ?_
    refine lv_icmp_ne (tgt := 416) X.1 X.2.1 dL_minute_361 (by decide) (fun c_361 => absurd (rfl) c_361) (fun c_361 => ?_)
    refine lv_aload_n X.1 X.2.1 dL_minute_364 rfl (lv_at hl 14 rfl) ?_
    refine lv_iconst (v := 2) X.1 X.2.1 dL_minute_365 (by decide) ?_
    refine lv_bipush (v := 8) X.1 X.2.1 dL_minute_366 (by decide) ?_
    refine lv_iconst (v := 0) X.1 X.2.1 dL_minute_368 (by decide) ?_
    refine lv_iconst (v := 0) X.1 X.2.1 dL_minute_369 (by decide) ?_
    refine kGL (rest := []) (As := [.ref ho, .int 2, .int 8, .int 0, .int 0]) X hP hD hS hl.1 o115.len (q_about l hst G kk (by omega) o115 (8 : Int32) 0 0 ) sl_L_138 ⟨Nat.le_of_ble_eq_true rfl, Nat.le_of_ble_eq_true rfl, rfl, rfl⟩ ⟨by show _ ≤ 60; omega, by show _ ≤ 360; omega⟩ rfl (Nat.le_of_ble_eq_true rfl) dL_minute_370 (fun w116 r116 H locs hΦ a116 hP hD hS => ?_)
    obtain ⟨o116, rfl⟩ := hΦ
    replace a116 := a116.trans a115
    refine top_eq (y := (σ.1 7 + (RUNF σ.1 1 7 - σ.1 7))) ((qa_8 σ1.1).trans (by rw [f1]; exact add_back (σ.1 7) (RUNF σ.1 1 7))) ?_
    refine lv_iload X.1 X.2.1 dL_minute_373 (lv_at hl 5 rfl) ?_
    refine lv_icmp_ne (tgt := 416) X.1 X.2.1 dL_minute_375 (by decide) (fun c_375 => absurd (rfl) c_375) (fun c_375 => ?_)
    refine lv_iload X.1 X.2.1 dL_minute_378 (lv_at hl 1 rfl) ?_
    refine lv_aload_n X.1 X.2.1 dL_minute_380 rfl (lv_at hl 14 rfl) ?_
    refine lv_iconst (v := 3) X.1 X.2.1 dL_minute_381 (by decide) ?_
    refine lv_iload X.1 X.2.1 dL_minute_382 (lv_at hl 12 rfl) ?_
    refine lv_iconst (v := 2) X.1 X.2.1 dL_minute_384 (by decide) ?_
    refine lv_iconst (v := 0) X.1 X.2.1 dL_minute_385 (by decide) ?_
    refine kGL (rest := [.int v15]) (As := [.ref ho, .int 3, .int (nI i), .int 2, .int 0]) X hP hD hS hl.1 o116.len (q_room l hst G kk (by omega) o116 (nI i) (2 : Int32) 0 ) sl_L_138 ⟨Nat.le_of_ble_eq_true rfl, Nat.le_of_ble_eq_true rfl, rfl, rfl⟩ ⟨by show _ ≤ 60; omega, by show _ ≤ 360; omega⟩ rfl (Nat.le_of_ble_eq_true rfl) dL_minute_386 (fun w117 r117 H locs hΦ a117 hP hD hS => ?_)
    obtain ⟨o117, rfl⟩ := hΦ
    replace a117 := a117.trans a116
    refine top_eq (y := (σ1.1 (16 + 8 * i + 2))) (qr_at okA (w := 2) h1i (by decide)) ?_
    have hw := p110
    rw [nI_cl (by omega)] at hw
    unfold WP at hw
    rw [← f1, r3, ← h15] at hw
    suffices J417 : W p l e (rmG 9 188 60 360) s m args below meth c H locs (((((((((((((((((0 + 1) + 1) + 1) + 1) + 1) + 1) + 1) + 1) + 1) + 1) + 1) + 1) + 1) + 1) + 1) + 1) + 1) (((((((((((((((((0 + 6) + 6) + 6) + 6) + 6) + 6) + 6) + 6) + 6) + 6) + 6) + 6) + 6) + 6) + 6) + 6) + 6) Q (F0 m 417 ls [.int 1]) by
      refine lv_icmp_lt (tgt := 406) X.1 X.2.1 dL_minute_389 (by decide) (fun c_389 => ?_) (fun c_389 => ?_)
      · skip
        refine lv_iload X.1 X.2.1 dL_minute_406 (lv_at hl 4 rfl) ?_
        refine lv_iconst (v := 1) X.1 X.2.1 dL_minute_408 (by decide) ?_
        refine lv_icmp_eq (tgt := 416) X.1 X.2.1 dL_minute_409 (by decide) (fun c_409 => absurd c_409 (hw.2 c_389)) (fun c_409 => ?_)
        refine lv_iconst (v := 1) X.1 X.2.1 dL_minute_412 (by decide) ?_
        refine lv_goto (tgt := 417) X.1 X.2.1 dL_minute_413 (by decide) ?_
        exact J417
      · skip
        refine lv_iload X.1 X.2.1 dL_minute_392 (lv_at hl 4 rfl) ?_
        refine lv_if_eq (tgt := 412) X.1 X.2.1 dL_minute_394 (by decide) (fun c_394 => ?_) (fun c_394 => ?_)
        · skip
          refine lv_iconst (v := 1) X.1 X.2.1 dL_minute_412 (by decide) ?_
          refine lv_goto (tgt := 417) X.1 X.2.1 dL_minute_413 (by decide) ?_
          exact J417
        · skip
          refine lv_iload X.1 X.2.1 dL_minute_397 (lv_at hl 4 rfl) ?_
          refine lv_iconst (v := 1) X.1 X.2.1 dL_minute_399 (by decide) ?_
          refine lv_icmp_ne (tgt := 416) X.1 X.2.1 dL_minute_400 (by decide) (fun c_400 => absurd ((hw.1 c_389).resolve_left c_394) c_400) (fun c_400 => ?_)
          refine lv_goto (tgt := 412) X.1 X.2.1 dL_minute_403 (by decide) ?_
          refine lv_iconst (v := 1) X.1 X.2.1 dL_minute_412 (by decide) ?_
          refine lv_goto (tgt := 417) X.1 X.2.1 dL_minute_413 (by decide) ?_
          exact J417
    refine lv_istore (lv' := [(17, .int 1), (16, .int v16), (15, .int v15), (14, .int 1), (13, .int 0), (12, .int r110), (11, .int ((σ.1 7) + (RUNF σ.1 1 7 - σ.1 7))), (10, .int (RUNF σ.1 1 5 - σ.1 5)), (9, .int (σ.1 (16 + 8 * i + 4))), (8, .int (σ.1 (16 + 8 * i + 7))), (7, .int (σ.1 (16 + 8 * i + 5))), (6, .int (σ.1 (16 + 8 * i + 3))), (5, .int 5), (4, .int (nI i)), (3, .int (nI (mF σ.1))), (0, .ref ho), (1, .ref hq), (2, .int (nI N))]) X.1 X.2.1 dL_minute_417 hl (by decide) rfl (fun ls hl => ?_)
    refine lv_iload X.1 X.2.1 dL_minute_419 (lv_at hl 0 rfl) ?_
    refine lv_if_eq (tgt := 486) X.1 X.2.1 dL_minute_421 (by decide) (fun c_421 => absurd c_421 (by decide)) (fun c_421 => ?_)
    refine lv_aload_n X.1 X.2.1 dL_minute_424 rfl (lv_at hl 15 rfl) ?_
    refine lv_bipush (v := 10) X.1 X.2.1 dL_minute_425 (by decide) ?_
    refine lv_iconst (v := 0) X.1 X.2.1 dL_minute_427 (by decide) ?_
    refine lv_iconst (v := 0) X.1 X.2.1 dL_minute_428 (by decide) ?_
    refine lv_iconst (v := 0) X.1 X.2.1 dL_minute_429 (by decide) ?_
    refine kGL (rest := []) (As := [.ref ho, .int 10, .int 0, .int 0, .int 0]) X hP hD hS hl.1 o117.len (q_undo l hst G kk (by omega) o117  0 0 0 (hc1)) sl_L_138 ⟨Nat.le_of_ble_eq_true rfl, Nat.le_of_ble_eq_true rfl, rfl, rfl⟩ ⟨by show _ ≤ 60; omega, by show _ ≤ 360; omega⟩ rfl (Nat.le_of_ble_eq_true rfl) dL_minute_430 (fun w118 r118 H locs hΦ a118 hP hD hS => ?_)
    obtain ⟨o118, rfl⟩ := hΦ
    replace a118 := a118.trans a117
    refine k_goI (k_runS (rest := []) (As := [.int (nI (σ1.2.1 - 1))]) X.1 X.2.1 X.2.2.1 X.2.2.2.1 X.2.2.2.2.1 X.2.2.2.2.2.1 hP hD hS X.2.2.2.2.2.2.1 X.2.2.2.2.2.2.2.1 hl.1 (c_L_thrown l G kk (nI (σ1.2.1 - 1))) sl_L_190 ⟨Nat.le_of_ble_eq_true rfl, Nat.le_of_ble_eq_true rfl, rfl, rfl⟩ [] rfl rfl ⟨by show _ ≤ 60; omega, by show _ ≤ 360; omega⟩ rfl (Nat.le_of_ble_eq_true rfl) dL_minute_433) hP hD hS X.2.2.2.2.2.2.1 [] rfl rfl (fun H locs hP hD hS => ?_)
    replace hP : va_P G vwCl (w118 ++ w112) H := hP
    replace hD : va_D A (w118 ++ w112) := hD
    refine top_eq (y := 0) (thrown_n (by omega)) ?_
    refine lv_if_ne (tgt := 486) X.1 X.2.1 dL_minute_436 (by decide) (fun c_436 => absurd (by decide) c_436) (fun c_436 => ?_)
    refine lv_aload_n X.1 X.2.1 dL_minute_439 rfl (lv_at hl 16 rfl) ?_
    refine lv_bipush (v := 10) X.1 X.2.1 dL_minute_440 (by decide) ?_
    refine lv_iconst (v := 0) X.1 X.2.1 dL_minute_442 (by decide) ?_
    refine lv_iconst (v := 0) X.1 X.2.1 dL_minute_443 (by decide) ?_
    refine lv_iconst (v := 0) X.1 X.2.1 dL_minute_444 (by decide) ?_
    refine kGR (rest := []) (As := [.ref hq, .int 10, .int 0, .int 0, .int 0]) X hP hD hS hl.1 o112.len o118.len (q_undo l hst G kk (by omega) o112  0 0 0 (hc1)) sl_L_138 ⟨Nat.le_of_ble_eq_true rfl, Nat.le_of_ble_eq_true rfl, rfl, rfl⟩ ⟨by show _ ≤ 60; omega, by show _ ≤ 360; omega⟩ rfl (Nat.le_of_ble_eq_true rfl) dL_minute_445 (fun w119 r119 H locs hΦ a119 hP hD hS => ?_)
    obtain ⟨o119, rfl⟩ := hΦ
    replace a119 := a119.trans a112
    refine k_goI (k_runS (rest := []) (As := [.int (nI (σ1.2.1 - 1))]) X.1 X.2.1 X.2.2.1 X.2.2.2.1 X.2.2.2.2.1 X.2.2.2.2.2.1 hP hD hS X.2.2.2.2.2.2.1 X.2.2.2.2.2.2.2.1 hl.1 (c_L_thrown l G kk (nI (σ1.2.1 - 1))) sl_L_190 ⟨Nat.le_of_ble_eq_true rfl, Nat.le_of_ble_eq_true rfl, rfl, rfl⟩ [] rfl rfl ⟨by show _ ≤ 60; omega, by show _ ≤ 360; omega⟩ rfl (Nat.le_of_ble_eq_true rfl) dL_minute_448) hP hD hS X.2.2.2.2.2.2.1 [] rfl rfl (fun H locs hP hD hS => ?_)
    replace hP : va_P G vwCl (w118 ++ w119) H := hP
    replace hD : va_D A (w118 ++ w119) := hD
    refine top_eq (y := 0) (thrown_n (by omega)) ?_
    refine lv_if_ne (tgt := 486) X.1 X.2.1 dL_minute_451 (by decide) (fun c_451 => absurd (by decide) c_451) (fun c_451 => ?_)
    refine lv_aload_n X.1 X.2.1 dL_minute_454 rfl (lv_at hl 15 rfl) ?_
    refine lv_iconst (v := 3) X.1 X.2.1 dL_minute_455 (by decide) ?_
    refine lv_iload X.1 X.2.1 dL_minute_456 (lv_at hl 13 rfl) ?_
    refine lv_iconst (v := 3) X.1 X.2.1 dL_minute_458 (by decide) ?_
    refine lv_iconst (v := 0) X.1 X.2.1 dL_minute_459 (by decide) ?_
    refine kGL (rest := []) (As := [.ref ho, .int 3, .int (nI i), .int 3, .int 0]) X hP hD hS hl.1 o118.len (q_room l hst G kk (by omega) o118 (nI i) (3 : Int32) 0 ) sl_L_138 ⟨Nat.le_of_ble_eq_true rfl, Nat.le_of_ble_eq_true rfl, rfl, rfl⟩ ⟨by show _ ≤ 60; omega, by show _ ≤ 360; omega⟩ rfl (Nat.le_of_ble_eq_true rfl) dL_minute_460 (fun w120 r120 H locs hΦ a120 hP hD hS => ?_)
    obtain ⟨o120, rfl⟩ := hΦ
    replace a120 := a120.trans a118
    refine top_eq (y := (σ.1 (16 + 8 * i + 3))) ((by rw [f2]; exact qr_at ok (w := 3) hi (by decide))) ?_
    refine lv_iload X.1 X.2.1 dL_minute_463 (lv_at hl 11 rfl) ?_
    refine lv_icmp_ne (tgt := 486) X.1 X.2.1 dL_minute_465 (by decide) (fun c_465 => absurd (rfl) c_465) (fun c_465 => ?_)
    refine lv_aload_n X.1 X.2.1 dL_minute_468 rfl (lv_at hl 15 rfl) ?_
    refine lv_iconst (v := 4) X.1 X.2.1 dL_minute_469 (by decide) ?_
    refine lv_iload X.1 X.2.1 dL_minute_470 (lv_at hl 13 rfl) ?_
    refine lv_iconst (v := 0) X.1 X.2.1 dL_minute_472 (by decide) ?_
    refine lv_iconst (v := 0) X.1 X.2.1 dL_minute_473 (by decide) ?_
    refine kGL (rest := []) (As := [.ref ho, .int 4, .int (nI i), .int 0, .int 0]) X hP hD hS hl.1 o120.len (q_does l hst G kk (by omega) o120 (nI i) 0 0 ) sl_L_138 ⟨Nat.le_of_ble_eq_true rfl, Nat.le_of_ble_eq_true rfl, rfl, rfl⟩ ⟨by show _ ≤ 60; omega, by show _ ≤ 360; omega⟩ rfl (Nat.le_of_ble_eq_true rfl) dL_minute_474 (fun w121 r121 H locs hΦ a121 hP hD hS => ?_)
    obtain ⟨o121, rfl⟩ := hΦ
    replace a121 := a121.trans a120
    refine top_eq (y := 5) ((by rw [f2]; exact (qd_at ok hi).trans hd1)) ?_
    refine lv_iload X.1 X.2.1 dL_minute_477 (lv_at hl 12 rfl) ?_
    refine lv_icmp_ne (tgt := 486) X.1 X.2.1 dL_minute_479 (by decide) (fun c_479 => absurd (by decide) c_479) (fun c_479 => ?_)
    refine lv_iconst (v := 1) X.1 X.2.1 dL_minute_482 (by decide) ?_
    refine lv_goto (tgt := 487) X.1 X.2.1 dL_minute_483 (by decide) ?_
    refine W.widen (k := 60) (n := 360) (by omega) (by omega) ?_
    exact FIN _ 1 H locs ls 487 ⟨⟨_, _, rfl, o121, o119⟩, rfl⟩ (ads_app a121 a119) hP hD hS (fun _ => rfl) dL_minute_487
  · skip
    refine kGL (rest := []) (As := [.ref ho, .int 4, .int (nI i), .int 0, .int 0]) X hP hD hS hl.1 o1.len (q_does l hst G kk (by omega) o1 (nI i) 0 0 ) sl_L_138 ⟨Nat.le_of_ble_eq_true rfl, Nat.le_of_ble_eq_true rfl, rfl, rfl⟩ ⟨by show _ ≤ 60; omega, by show _ ≤ 360; omega⟩ rfl (Nat.le_of_ble_eq_true rfl) dL_minute_20 (fun w122 r122 H locs hΦ a122 hP hD hS => ?_)
    obtain ⟨o122, rfl⟩ := hΦ
    replace a122 := a122.trans a1
    refine top_eq (y := 6) ((qd_at ok hi).trans hd1) ?_
    refine lv_istore (lv' := [(5, .int 6), (4, .int (nI i)), (3, .int (nI (mF σ.1))), (0, .ref ho), (1, .ref hq), (2, .int (nI N))]) X.1 X.2.1 dL_minute_23 hl (by decide) rfl (fun ls hl => ?_)
    refine lv_aload_n X.1 X.2.1 dL_minute_25 rfl (lv_at hl 3 rfl) ?_
    refine lv_iconst (v := 3) X.1 X.2.1 dL_minute_26 (by decide) ?_
    refine lv_iload X.1 X.2.1 dL_minute_27 (lv_at hl 1 rfl) ?_
    refine lv_iconst (v := 3) X.1 X.2.1 dL_minute_29 (by decide) ?_
    refine lv_iconst (v := 0) X.1 X.2.1 dL_minute_30 (by decide) ?_
    refine kGL (rest := []) (As := [.ref ho, .int 3, .int (nI i), .int 3, .int 0]) X hP hD hS hl.1 o122.len (q_room l hst G kk (by omega) o122 (nI i) (3 : Int32) 0 ) sl_L_138 ⟨Nat.le_of_ble_eq_true rfl, Nat.le_of_ble_eq_true rfl, rfl, rfl⟩ ⟨by show _ ≤ 60; omega, by show _ ≤ 360; omega⟩ rfl (Nat.le_of_ble_eq_true rfl) dL_minute_31 (fun w123 r123 H locs hΦ a123 hP hD hS => ?_)
    obtain ⟨o123, rfl⟩ := hΦ
    replace a123 := a123.trans a122
    refine top_eq (y := (σ.1 (16 + 8 * i + 3))) (qr_at ok (w := 3) hi (by decide)) ?_
    refine lv_istore (lv' := [(6, .int (σ.1 (16 + 8 * i + 3))), (5, .int 6), (4, .int (nI i)), (3, .int (nI (mF σ.1))), (0, .ref ho), (1, .ref hq), (2, .int (nI N))]) X.1 X.2.1 dL_minute_34 hl (by decide) rfl (fun ls hl => ?_)
    refine lv_aload_n X.1 X.2.1 dL_minute_36 rfl (lv_at hl 4 rfl) ?_
    refine lv_iconst (v := 3) X.1 X.2.1 dL_minute_37 (by decide) ?_
    refine lv_iload X.1 X.2.1 dL_minute_38 (lv_at hl 2 rfl) ?_
    refine lv_iconst (v := 5) X.1 X.2.1 dL_minute_40 (by decide) ?_
    refine lv_iconst (v := 0) X.1 X.2.1 dL_minute_41 (by decide) ?_
    refine kGL (rest := []) (As := [.ref ho, .int 3, .int (nI i), .int 5, .int 0]) X hP hD hS hl.1 o123.len (q_room l hst G kk (by omega) o123 (nI i) (5 : Int32) 0 ) sl_L_138 ⟨Nat.le_of_ble_eq_true rfl, Nat.le_of_ble_eq_true rfl, rfl, rfl⟩ ⟨by show _ ≤ 60; omega, by show _ ≤ 360; omega⟩ rfl (Nat.le_of_ble_eq_true rfl) dL_minute_42 (fun w124 r124 H locs hΦ a124 hP hD hS => ?_)
    obtain ⟨o124, rfl⟩ := hΦ
    replace a124 := a124.trans a123
    refine top_eq (y := (σ.1 (16 + 8 * i + 5))) (qr_at ok (w := 5) hi (by decide)) ?_
    refine lv_istore (lv' := [(7, .int (σ.1 (16 + 8 * i + 5))), (6, .int (σ.1 (16 + 8 * i + 3))), (5, .int 6), (4, .int (nI i)), (3, .int (nI (mF σ.1))), (0, .ref ho), (1, .ref hq), (2, .int (nI N))]) X.1 X.2.1 dL_minute_45 hl (by decide) rfl (fun ls hl => ?_)
    refine lv_aload_n X.1 X.2.1 dL_minute_47 rfl (lv_at hl 5 rfl) ?_
    refine lv_iconst (v := 3) X.1 X.2.1 dL_minute_48 (by decide) ?_
    refine lv_iload X.1 X.2.1 dL_minute_49 (lv_at hl 3 rfl) ?_
    refine lv_bipush (v := 7) X.1 X.2.1 dL_minute_51 (by decide) ?_
    refine lv_iconst (v := 0) X.1 X.2.1 dL_minute_53 (by decide) ?_
    refine kGL (rest := []) (As := [.ref ho, .int 3, .int (nI i), .int 7, .int 0]) X hP hD hS hl.1 o124.len (q_room l hst G kk (by omega) o124 (nI i) (7 : Int32) 0 ) sl_L_138 ⟨Nat.le_of_ble_eq_true rfl, Nat.le_of_ble_eq_true rfl, rfl, rfl⟩ ⟨by show _ ≤ 60; omega, by show _ ≤ 360; omega⟩ rfl (Nat.le_of_ble_eq_true rfl) dL_minute_54 (fun w125 r125 H locs hΦ a125 hP hD hS => ?_)
    obtain ⟨o125, rfl⟩ := hΦ
    replace a125 := a125.trans a124
    refine top_eq (y := (σ.1 (16 + 8 * i + 7))) (qr_at ok (w := 7) hi (by decide)) ?_
    refine lv_istore (lv' := [(8, .int (σ.1 (16 + 8 * i + 7))), (7, .int (σ.1 (16 + 8 * i + 5))), (6, .int (σ.1 (16 + 8 * i + 3))), (5, .int 6), (4, .int (nI i)), (3, .int (nI (mF σ.1))), (0, .ref ho), (1, .ref hq), (2, .int (nI N))]) X.1 X.2.1 dL_minute_57 hl (by decide) rfl (fun ls hl => ?_)
    refine lv_aload_n X.1 X.2.1 dL_minute_59 rfl (lv_at hl 6 rfl) ?_
    refine lv_iconst (v := 3) X.1 X.2.1 dL_minute_60 (by decide) ?_
    refine lv_iload X.1 X.2.1 dL_minute_61 (lv_at hl 4 rfl) ?_
    refine lv_iconst (v := 4) X.1 X.2.1 dL_minute_63 (by decide) ?_
    refine lv_iconst (v := 0) X.1 X.2.1 dL_minute_64 (by decide) ?_
    refine kGL (rest := []) (As := [.ref ho, .int 3, .int (nI i), .int 4, .int 0]) X hP hD hS hl.1 o125.len (q_room l hst G kk (by omega) o125 (nI i) (4 : Int32) 0 ) sl_L_138 ⟨Nat.le_of_ble_eq_true rfl, Nat.le_of_ble_eq_true rfl, rfl, rfl⟩ ⟨by show _ ≤ 60; omega, by show _ ≤ 360; omega⟩ rfl (Nat.le_of_ble_eq_true rfl) dL_minute_65 (fun w126 r126 H locs hΦ a126 hP hD hS => ?_)
    obtain ⟨o126, rfl⟩ := hΦ
    replace a126 := a126.trans a125
    refine top_eq (y := (σ.1 (16 + 8 * i + 4))) (qr_at ok (w := 4) hi (by decide)) ?_
    refine lv_istore (lv' := [(9, .int (σ.1 (16 + 8 * i + 4))), (8, .int (σ.1 (16 + 8 * i + 7))), (7, .int (σ.1 (16 + 8 * i + 5))), (6, .int (σ.1 (16 + 8 * i + 3))), (5, .int 6), (4, .int (nI i)), (3, .int (nI (mF σ.1))), (0, .ref ho), (1, .ref hq), (2, .int (nI N))]) X.1 X.2.1 dL_minute_68 hl (by decide) rfl (fun ls hl => ?_)
    refine lv_aload_n X.1 X.2.1 dL_minute_70 rfl (lv_at hl 7 rfl) ?_
    refine lv_bipush (v := 12) X.1 X.2.1 dL_minute_71 (by decide) ?_
    refine lv_iconst (v := 1) X.1 X.2.1 dL_minute_73 (by decide) ?_
    refine lv_iconst (v := 0) X.1 X.2.1 dL_minute_74 (by decide) ?_
    refine lv_iconst (v := 0) X.1 X.2.1 dL_minute_75 (by decide) ?_
    refine kGL (rest := []) (As := [.ref ho, .int 12, .int 1, .int 0, .int 0]) X hP hD hS hl.1 o126.len (q_coming l hst G kk (by omega) o126 (1 : Int32) (0 : Int32) 0 (rfl) (Or.inl rfl)) sl_L_138 ⟨Nat.le_of_ble_eq_true rfl, Nat.le_of_ble_eq_true rfl, rfl, rfl⟩ ⟨by show _ ≤ 60; omega, by show _ ≤ 360; omega⟩ rfl (Nat.le_of_ble_eq_true rfl) dL_minute_76 (fun w127 r127 H locs hΦ a127 hP hD hS => ?_)
    obtain ⟨o127, rfl⟩ := hΦ
    replace a127 := a127.trans a126
    refine top_eq (y := (RUNF σ.1 1 5 - σ.1 5)) (if_pos rfl) ?_
    refine lv_istore (lv' := [(10, .int (RUNF σ.1 1 5 - σ.1 5)), (9, .int (σ.1 (16 + 8 * i + 4))), (8, .int (σ.1 (16 + 8 * i + 7))), (7, .int (σ.1 (16 + 8 * i + 5))), (6, .int (σ.1 (16 + 8 * i + 3))), (5, .int 6), (4, .int (nI i)), (3, .int (nI (mF σ.1))), (0, .ref ho), (1, .ref hq), (2, .int (nI N))]) X.1 X.2.1 dL_minute_79 hl (by decide) rfl (fun ls hl => ?_)
    refine lv_aload_n X.1 X.2.1 dL_minute_81 rfl (lv_at hl 8 rfl) ?_
    refine lv_iconst (v := 2) X.1 X.2.1 dL_minute_82 (by decide) ?_
    refine lv_bipush (v := 8) X.1 X.2.1 dL_minute_83 (by decide) ?_
    refine lv_iconst (v := 0) X.1 X.2.1 dL_minute_85 (by decide) ?_
    refine lv_iconst (v := 0) X.1 X.2.1 dL_minute_86 (by decide) ?_
    refine kGL (rest := []) (As := [.ref ho, .int 2, .int 8, .int 0, .int 0]) X hP hD hS hl.1 o127.len (q_about l hst G kk (by omega) o127 (8 : Int32) 0 0 ) sl_L_138 ⟨Nat.le_of_ble_eq_true rfl, Nat.le_of_ble_eq_true rfl, rfl, rfl⟩ ⟨by show _ ≤ 60; omega, by show _ ≤ 360; omega⟩ rfl (Nat.le_of_ble_eq_true rfl) dL_minute_87 (fun w128 r128 H locs hΦ a128 hP hD hS => ?_)
    obtain ⟨o128, rfl⟩ := hΦ
    replace a128 := a128.trans a127
    refine top_eq (y := (σ.1 7)) (qa_8 σ.1) ?_
    refine lv_aload_n X.1 X.2.1 dL_minute_90 rfl (lv_at hl 8 rfl) ?_
    refine lv_bipush (v := 12) X.1 X.2.1 dL_minute_91 (by decide) ?_
    refine lv_iconst (v := 1) X.1 X.2.1 dL_minute_93 (by decide) ?_
    refine lv_iconst (v := 3) X.1 X.2.1 dL_minute_94 (by decide) ?_
    refine lv_iconst (v := 0) X.1 X.2.1 dL_minute_95 (by decide) ?_
    refine kGL (rest := [.int (σ.1 7)]) (As := [.ref ho, .int 12, .int 1, .int 3, .int 0]) X hP hD hS hl.1 o128.len (q_coming l hst G kk (by omega) o128 (1 : Int32) (3 : Int32) 0 (rfl) (Or.inr rfl)) sl_L_138 ⟨Nat.le_of_ble_eq_true rfl, Nat.le_of_ble_eq_true rfl, rfl, rfl⟩ ⟨by show _ ≤ 60; omega, by show _ ≤ 360; omega⟩ rfl (Nat.le_of_ble_eq_true rfl) dL_minute_96 (fun w129 r129 H locs hΦ a129 hP hD hS => ?_)
    obtain ⟨o129, rfl⟩ := hΦ
    replace a129 := a129.trans a128
    refine top_eq (y := (RUNF σ.1 1 7 - σ.1 7)) (if_neg (by decide)) ?_
    refine lv_iadd X.1 X.2.1 dL_minute_99 ?_
    refine lv_istore (lv' := [(11, .int ((σ.1 7) + (RUNF σ.1 1 7 - σ.1 7))), (10, .int (RUNF σ.1 1 5 - σ.1 5)), (9, .int (σ.1 (16 + 8 * i + 4))), (8, .int (σ.1 (16 + 8 * i + 7))), (7, .int (σ.1 (16 + 8 * i + 5))), (6, .int (σ.1 (16 + 8 * i + 3))), (5, .int 6), (4, .int (nI i)), (3, .int (nI (mF σ.1))), (0, .ref ho), (1, .ref hq), (2, .int (nI N))]) X.1 X.2.1 dL_minute_100 hl (by decide) rfl (fun ls hl => ?_)
    refine lv_aload_n X.1 X.2.1 dL_minute_102 rfl (lv_at hl 9 rfl) ?_
    refine lv_bipush (v := 11) X.1 X.2.1 dL_minute_103 (by decide) ?_
    refine lv_iload X.1 X.2.1 dL_minute_105 (lv_at hl 7 rfl) ?_
    refine lv_iconst (v := 0) X.1 X.2.1 dL_minute_107 (by decide) ?_
    refine lv_iconst (v := 0) X.1 X.2.1 dL_minute_108 (by decide) ?_
    refine kGL (rest := []) (As := [.ref ho, .int 11, .int (nI i), .int 0, .int 0]) X hP hD hS hl.1 o129.len (q_warm l hst G kk (by omega) o129 (nI i) 0 0 (ir_yes ok hi)) sl_L_138 ⟨Nat.le_of_ble_eq_true rfl, Nat.le_of_ble_eq_true rfl, rfl, rfl⟩ ⟨by show _ ≤ 60; omega, by show _ ≤ 360; omega⟩ rfl (Nat.le_of_ble_eq_true rfl) dL_minute_109 (fun w130 r130 H locs hΦ a130 hP hD hS => ?_)
    obtain ⟨o130, p130⟩ := hΦ
    replace a130 := a130.trans a129
    refine lv_istore (lv' := [(12, .int r130), (11, .int ((σ.1 7) + (RUNF σ.1 1 7 - σ.1 7))), (10, .int (RUNF σ.1 1 5 - σ.1 5)), (9, .int (σ.1 (16 + 8 * i + 4))), (8, .int (σ.1 (16 + 8 * i + 7))), (7, .int (σ.1 (16 + 8 * i + 5))), (6, .int (σ.1 (16 + 8 * i + 3))), (5, .int 6), (4, .int (nI i)), (3, .int (nI (mF σ.1))), (0, .ref ho), (1, .ref hq), (2, .int (nI N))]) X.1 X.2.1 dL_minute_112 hl (by decide) rfl (fun ls hl => ?_)
    refine lv_iload X.1 X.2.1 dL_minute_114 (lv_at hl 7 rfl) ?_
    refine lv_iconst (v := 1) X.1 X.2.1 dL_minute_116 (by decide) ?_
    refine lv_icmp_eq (tgt := 126) X.1 X.2.1 dL_minute_117 (by decide) (fun c_117 => absurd c_117 (by decide)) (fun c_117 => ?_)
    refine lv_iload X.1 X.2.1 dL_minute_120 (lv_at hl 7 rfl) ?_
    refine lv_iconst (v := 3) X.1 X.2.1 dL_minute_122 (by decide) ?_
    refine lv_icmp_ne (tgt := 130) X.1 X.2.1 dL_minute_123 (by decide) (fun c_123 => ?_) (fun c_123 => absurd c_123 (by decide))
    refine lv_iconst (v := 0) X.1 X.2.1 dL_minute_130 (by decide) ?_
    refine lv_istore (lv' := [(13, .int 0), (12, .int r130), (11, .int ((σ.1 7) + (RUNF σ.1 1 7 - σ.1 7))), (10, .int (RUNF σ.1 1 5 - σ.1 5)), (9, .int (σ.1 (16 + 8 * i + 4))), (8, .int (σ.1 (16 + 8 * i + 7))), (7, .int (σ.1 (16 + 8 * i + 5))), (6, .int (σ.1 (16 + 8 * i + 3))), (5, .int 6), (4, .int (nI i)), (3, .int (nI (mF σ.1))), (0, .ref ho), (1, .ref hq), (2, .int (nI N))]) X.1 X.2.1 dL_minute_131 hl (by decide) rfl (fun ls hl => ?_)
    refine lv_iload X.1 X.2.1 dL_minute_133 (lv_at hl 8 rfl) ?_
    refine lv_if_eq (tgt := 150) X.1 X.2.1 dL_minute_135 (by decide) (fun c_135 => absurd c_135 (by decide)) (fun c_135 => ?_)
    refine lv_iload X.1 X.2.1 dL_minute_138 (lv_at hl 8 rfl) ?_
    refine lv_iconst (v := 2) X.1 X.2.1 dL_minute_140 (by decide) ?_
    refine lv_icmp_eq (tgt := 150) X.1 X.2.1 dL_minute_141 (by decide) (fun c_141 => absurd c_141 (by decide)) (fun c_141 => ?_)
    refine lv_iload X.1 X.2.1 dL_minute_144 (lv_at hl 8 rfl) ?_
    refine lv_iconst (v := 5) X.1 X.2.1 dL_minute_146 (by decide) ?_
    refine lv_icmp_ne (tgt := 154) X.1 X.2.1 dL_minute_147 (by decide) (fun c_147 => ?_) (fun c_147 => absurd c_147 (by decide))
    refine lv_iconst (v := 0) X.1 X.2.1 dL_minute_154 (by decide) ?_
    refine lv_istore (lv' := [(14, .int 0), (13, .int 0), (12, .int r130), (11, .int ((σ.1 7) + (RUNF σ.1 1 7 - σ.1 7))), (10, .int (RUNF σ.1 1 5 - σ.1 5)), (9, .int (σ.1 (16 + 8 * i + 4))), (8, .int (σ.1 (16 + 8 * i + 7))), (7, .int (σ.1 (16 + 8 * i + 5))), (6, .int (σ.1 (16 + 8 * i + 3))), (5, .int 6), (4, .int (nI i)), (3, .int (nI (mF σ.1))), (0, .ref ho), (1, .ref hq), (2, .int (nI N))]) X.1 X.2.1 dL_minute_155 hl (by decide) rfl (fun ls hl => ?_)
    refine lv_iload X.1 X.2.1 dL_minute_157 (lv_at hl 8 rfl) ?_
    refine lv_iload X.1 X.2.1 dL_minute_159 (lv_at hl 1 rfl) ?_
    refine lv_if_eq (tgt := 175) X.1 X.2.1 dL_minute_161 (by decide) (fun c_161 => ?_) (fun c_161 => absurd (by decide) c_161)
    refine lv_iload X.1 X.2.1 dL_minute_175 (lv_at hl 0 rfl) ?_
    refine lv_if_eq (tgt := 185) X.1 X.2.1 dL_minute_177 (by decide) (fun c_177 => ?_) (fun c_177 => absurd (by decide) c_177)
    refine lv_iconst (v := 1) X.1 X.2.1 dL_minute_185 (by decide) ?_
    refine lv_iadd X.1 X.2.1 dL_minute_186 ?_
    refine lv_iconst (v := 4) X.1 X.2.1 dL_minute_187 (by decide) ?_
    refine lv_iload X.1 X.2.1 dL_minute_188 (lv_at hl 5 rfl) ?_
    refine lv_imul X.1 X.2.1 dL_minute_190 ?_
    refine lv_iadd X.1 X.2.1 dL_minute_191 ?_
    refine lv_istore (lv' := [(15, .int (((σ.1 (16 + 8 * i + 3)) + 1) + (4 * (σ.1 (16 + 8 * i + 4))))), (14, .int 0), (13, .int 0), (12, .int r130), (11, .int ((σ.1 7) + (RUNF σ.1 1 7 - σ.1 7))), (10, .int (RUNF σ.1 1 5 - σ.1 5)), (9, .int (σ.1 (16 + 8 * i + 4))), (8, .int (σ.1 (16 + 8 * i + 7))), (7, .int (σ.1 (16 + 8 * i + 5))), (6, .int (σ.1 (16 + 8 * i + 3))), (5, .int 6), (4, .int (nI i)), (3, .int (nI (mF σ.1))), (0, .ref ho), (1, .ref hq), (2, .int (nI N))]) X.1 X.2.1 dL_minute_192 hl (by decide) rfl (fun ls hl => ?_)
    refine lv_iload X.1 X.2.1 dL_minute_194 (lv_at hl 0 rfl) ?_
    refine lv_sipush (v := 400) X.1 X.2.1 dL_minute_196 (by decide) ?_
    have eT : sX8_clamp ((((σ.1 (16 + 8 * i + 3)) + 1) + (4 * (σ.1 (16 + 8 * i + 4))))) (-400) 400 = Tn σ.1 (JB σ.1 i) i := by rw [hd1]; exact tn_val (x := 6) hz
    suffices J15 : ∀ v15 : Int32, v15 = Tn σ.1 (JB σ.1 i) i → W p l e (rmG 9 188 60 360) s m args below meth c H locs ((((((((((0 + 1) + 1) + 1) + 1) + 1) + 1) + 1) + 1) + 1) + 1) ((((((((((0 + 6) + 6) + 6) + 6) + 6) + 6) + 6) + 6) + 6) + 6) Q (F0 m 224 ls [.int v15]) by
      refine lv_icmp_le (tgt := 208) X.1 X.2.1 dL_minute_199 (by decide) (fun c_199 => ?_) (fun c_199 => ?_)
      · skip
        refine lv_iload X.1 X.2.1 dL_minute_208 (lv_at hl 0 rfl) ?_
        refine lv_sipush (v := (-400)) X.1 X.2.1 dL_minute_210 (by decide) ?_
        refine lv_icmp_ge (tgt := 222) X.1 X.2.1 dL_minute_213 (by decide) (fun c_213 => ?_) (fun c_213 => ?_)
        · skip
          refine lv_iload X.1 X.2.1 dL_minute_222 (lv_at hl 0 rfl) ?_
          exact J15 _ ((cl_mid c_199 c_213).trans eT)
        · skip
          refine lv_sipush (v := (-400)) X.1 X.2.1 dL_minute_216 (by decide) ?_
          refine lv_goto (tgt := 224) X.1 X.2.1 dL_minute_219 (by decide) ?_
          exact J15 _ ((cl_lo c_213).trans eT)
      · skip
        refine lv_sipush (v := 400) X.1 X.2.1 dL_minute_202 (by decide) ?_
        refine lv_goto (tgt := 224) X.1 X.2.1 dL_minute_205 (by decide) ?_
        exact J15 _ ((cl_hi c_199).trans eT)
    intro v15 h15
    refine lv_istore (lv' := [(15, .int v15), (14, .int 0), (13, .int 0), (12, .int r130), (11, .int ((σ.1 7) + (RUNF σ.1 1 7 - σ.1 7))), (10, .int (RUNF σ.1 1 5 - σ.1 5)), (9, .int (σ.1 (16 + 8 * i + 4))), (8, .int (σ.1 (16 + 8 * i + 7))), (7, .int (σ.1 (16 + 8 * i + 5))), (6, .int (σ.1 (16 + 8 * i + 3))), (5, .int 6), (4, .int (nI i)), (3, .int (nI (mF σ.1))), (0, .ref ho), (1, .ref hq), (2, .int (nI N))]) X.1 X.2.1 dL_minute_224 hl (by decide) rfl (fun ls hl => ?_)
    refine lv_iload X.1 X.2.1 dL_minute_226 (lv_at hl 1 rfl) ?_
    refine lv_if_eq (tgt := 250) X.1 X.2.1 dL_minute_228 (by decide) (fun c_228 => ?_) (fun c_228 => absurd (by decide) c_228)
    refine lv_iload X.1 X.2.1 dL_minute_250 (lv_at hl 8 rfl) ?_
    refine lv_iload X.1 X.2.1 dL_minute_252 (lv_at hl 2 rfl) ?_
    refine lv_if_eq (tgt := 261) X.1 X.2.1 dL_minute_254 (by decide) (fun c_254 => ?_) (fun c_254 => absurd (by decide) c_254)
    refine lv_iconst (v := 0) X.1 X.2.1 dL_minute_261 (by decide) ?_
    refine lv_iadd X.1 X.2.1 dL_minute_262 ?_
    refine lv_iconst (v := 2) X.1 X.2.1 dL_minute_263 (by decide) ?_
    refine lv_iload X.1 X.2.1 dL_minute_264 (lv_at hl 6 rfl) ?_
    refine lv_imul X.1 X.2.1 dL_minute_266 ?_
    refine lv_iadd X.1 X.2.1 dL_minute_267 ?_
    obtain ⟨v16, h16e⟩ : ∃ v16, v16 = (((σ.1 (16 + 8 * i + 5)) + 0) + (2 * (σ.1 (16 + 8 * i + 4)))) := ⟨_, rfl⟩
    have h16 : (if v16 ≤ 100 then v16 else 100) = Fn σ.1 (JB σ.1 i) i := by rw [h16e, hd1]; exact fn_un hz hf0 hf1 (by decide) (by decide)
    refine top_eq (y := v16) (h16e.symm) ?_
    refine lv_istore (lv' := [(16, .int v16), (15, .int v15), (14, .int 0), (13, .int 0), (12, .int r130), (11, .int ((σ.1 7) + (RUNF σ.1 1 7 - σ.1 7))), (10, .int (RUNF σ.1 1 5 - σ.1 5)), (9, .int (σ.1 (16 + 8 * i + 4))), (8, .int (σ.1 (16 + 8 * i + 7))), (7, .int (σ.1 (16 + 8 * i + 5))), (6, .int (σ.1 (16 + 8 * i + 3))), (5, .int 6), (4, .int (nI i)), (3, .int (nI (mF σ.1))), (0, .ref ho), (1, .ref hq), (2, .int (nI N))]) X.1 X.2.1 dL_minute_268 hl (by decide) rfl (fun ls hl => ?_)
    refine lv_aload_n X.1 X.2.1 dL_minute_270 rfl (lv_at hl 14 rfl) ?_
    refine lv_bipush (v := 8) X.1 X.2.1 dL_minute_271 (by decide) ?_
    refine lv_iconst (v := 1) X.1 X.2.1 dL_minute_273 (by decide) ?_
    refine lv_iconst (v := 0) X.1 X.2.1 dL_minute_274 (by decide) ?_
    refine lv_iconst (v := 0) X.1 X.2.1 dL_minute_275 (by decide) ?_
    refine kGL (rest := []) (As := [.ref ho, .int 8, .int 1, .int 0, .int 0]) X hP hD hS hl.1 o130.len (q_run l hst G kk (by omega) o130 (1 : Int32) 0 0 (by decide)) sl_L_138 ⟨Nat.le_of_ble_eq_true rfl, Nat.le_of_ble_eq_true rfl, rfl, rfl⟩ ⟨by show _ ≤ 60; omega, by show _ ≤ 360; omega⟩ rfl (Nat.le_of_ble_eq_true rfl) dL_minute_276 (fun w131 r131 H locs hΦ a131 hP hD hS => ?_)
    obtain ⟨o131, rfl⟩ := hΦ
    replace a131 := a131.trans a130
    replace o131 : OB kk (B + 60) σ1 ho w131 := by rw [hσ]; exact o131
    have okA := o131.row.1
    have h1i : i < mF σ1.1 := by rw [m1]; exact hi
    refine top_eq (y := (RUNF σ.1 1 5 - σ.1 5)) (by rw [show (1 : Int32).toNatClampNeg = 1 from rfl]) ?_
    refine lv_iload X.1 X.2.1 dL_minute_279 (lv_at hl 6 rfl) ?_
    refine lv_icmp_ne (tgt := 416) X.1 X.2.1 dL_minute_281 (by decide) (fun c_281 => absurd (rfl) c_281) (fun c_281 => ?_)
    refine lv_aload_n X.1 X.2.1 dL_minute_284 rfl (lv_at hl 15 rfl) ?_
    refine lv_bipush (v := 8) X.1 X.2.1 dL_minute_285 (by decide) ?_
    refine lv_iconst (v := 1) X.1 X.2.1 dL_minute_287 (by decide) ?_
    refine lv_iconst (v := 0) X.1 X.2.1 dL_minute_288 (by decide) ?_
    refine lv_iconst (v := 0) X.1 X.2.1 dL_minute_289 (by decide) ?_
    refine kGR (rest := []) (As := [.ref hq, .int 8, .int 1, .int 0, .int 0]) X hP hD hS hl.1 ob.len o131.len (q_run l hst G kk (by omega) ob (1 : Int32) 0 0 (by decide)) sl_L_138 ⟨Nat.le_of_ble_eq_true rfl, Nat.le_of_ble_eq_true rfl, rfl, rfl⟩ ⟨by show _ ≤ 60; omega, by show _ ≤ 360; omega⟩ rfl (Nat.le_of_ble_eq_true rfl) dL_minute_290 (fun w132 r132 H locs hΦ a132 hP hD hS => ?_)
    obtain ⟨o132, rfl⟩ := hΦ
    replace a132 := a132.trans b0
    replace o132 : OB kk (B + 60) σ1 hq w132 := by rw [hσ]; exact o132
    refine top_eq (y := (RUNF σ.1 1 5 - σ.1 5)) (by rw [show (1 : Int32).toNatClampNeg = 1 from rfl]) ?_
    refine lv_iload X.1 X.2.1 dL_minute_293 (lv_at hl 6 rfl) ?_
    refine lv_icmp_ne (tgt := 416) X.1 X.2.1 dL_minute_295 (by decide) (fun c_295 => absurd (rfl) c_295) (fun c_295 => ?_)
    refine lv_aload_n X.1 X.2.1 dL_minute_298 rfl (lv_at hl 14 rfl) ?_
    refine lv_iconst (v := 3) X.1 X.2.1 dL_minute_299 (by decide) ?_
    refine lv_iload X.1 X.2.1 dL_minute_300 (lv_at hl 12 rfl) ?_
    refine lv_iconst (v := 3) X.1 X.2.1 dL_minute_302 (by decide) ?_
    refine lv_iconst (v := 0) X.1 X.2.1 dL_minute_303 (by decide) ?_
    refine kGL (rest := []) (As := [.ref ho, .int 3, .int (nI i), .int 3, .int 0]) X hP hD hS hl.1 o131.len (q_room l hst G kk (by omega) o131 (nI i) (3 : Int32) 0 ) sl_L_138 ⟨Nat.le_of_ble_eq_true rfl, Nat.le_of_ble_eq_true rfl, rfl, rfl⟩ ⟨by show _ ≤ 60; omega, by show _ ≤ 360; omega⟩ rfl (Nat.le_of_ble_eq_true rfl) dL_minute_304 (fun w133 r133 H locs hΦ a133 hP hD hS => ?_)
    obtain ⟨o133, rfl⟩ := hΦ
    replace a133 := a133.trans a131
    refine top_eq (y := (Tn σ.1 (JB σ.1 i) i)) ((qr_at okA (w := 3) h1i (by decide)).trans r3) ?_
    refine lv_iload X.1 X.2.1 dL_minute_307 (lv_at hl 1 rfl) ?_
    refine lv_icmp_ne (tgt := 416) X.1 X.2.1 dL_minute_309 (by decide) (fun c_309 => absurd (h15.symm) c_309) (fun c_309 => ?_)
    refine lv_aload_n X.1 X.2.1 dL_minute_312 rfl (lv_at hl 14 rfl) ?_
    refine lv_iconst (v := 3) X.1 X.2.1 dL_minute_313 (by decide) ?_
    refine lv_iload X.1 X.2.1 dL_minute_314 (lv_at hl 12 rfl) ?_
    refine lv_iconst (v := 5) X.1 X.2.1 dL_minute_316 (by decide) ?_
    refine lv_iconst (v := 0) X.1 X.2.1 dL_minute_317 (by decide) ?_
    refine kGL (rest := []) (As := [.ref ho, .int 3, .int (nI i), .int 5, .int 0]) X hP hD hS hl.1 o133.len (q_room l hst G kk (by omega) o133 (nI i) (5 : Int32) 0 ) sl_L_138 ⟨Nat.le_of_ble_eq_true rfl, Nat.le_of_ble_eq_true rfl, rfl, rfl⟩ ⟨by show _ ≤ 60; omega, by show _ ≤ 360; omega⟩ rfl (Nat.le_of_ble_eq_true rfl) dL_minute_318 (fun w134 r134 H locs hΦ a134 hP hD hS => ?_)
    obtain ⟨o134, rfl⟩ := hΦ
    replace a134 := a134.trans a133
    refine top_eq (y := (Fn σ.1 (JB σ.1 i) i)) ((qr_at okA (w := 5) h1i (by decide)).trans r5) ?_
    refine lv_iload X.1 X.2.1 dL_minute_321 (lv_at hl 0 rfl) ?_
    refine lv_bipush (v := 100) X.1 X.2.1 dL_minute_323 (by decide) ?_
    suffices J338 : W p l e (rmG 9 188 60 360) s m args below meth c H locs ((((((((((((((0 + 1) + 1) + 1) + 1) + 1) + 1) + 1) + 1) + 1) + 1) + 1) + 1) + 1) + 1) ((((((((((((((0 + 6) + 6) + 6) + 6) + 6) + 6) + 6) + 6) + 6) + 6) + 6) + 6) + 6) + 6) Q (F0 m 338 ls []) by
      refine lv_icmp_le (tgt := 333) X.1 X.2.1 dL_minute_325 (by decide) (fun c_325 => ?_) (fun c_325 => ?_)
      · skip
        refine lv_iload X.1 X.2.1 dL_minute_333 (lv_at hl 0 rfl) ?_
        refine lv_icmp_ne (tgt := 416) X.1 X.2.1 dL_minute_335 (by decide) (fun c_335 => absurd ((by rw [if_pos c_325] at h16; exact h16.symm)) c_335) (fun c_335 => ?_)
        exact J338
      · skip
        refine lv_bipush (v := 100) X.1 X.2.1 dL_minute_328 (by decide) ?_
        refine lv_goto (tgt := 335) X.1 X.2.1 dL_minute_330 (by decide) ?_
        refine lv_icmp_ne (tgt := 416) X.1 X.2.1 dL_minute_335 (by decide) (fun c_335 => absurd ((by rw [if_neg c_325] at h16; exact h16.symm)) c_335) (fun c_335 => ?_)
        exact J338
    refine lv_aload_n X.1 X.2.1 dL_minute_338 rfl (lv_at hl 14 rfl) ?_
    refine lv_iconst (v := 3) X.1 X.2.1 dL_minute_339 (by decide) ?_
    refine lv_iload X.1 X.2.1 dL_minute_340 (lv_at hl 12 rfl) ?_
    refine lv_bipush (v := 7) X.1 X.2.1 dL_minute_342 (by decide) ?_
    refine lv_iconst (v := 0) X.1 X.2.1 dL_minute_344 (by decide) ?_
    refine kGL (rest := []) (As := [.ref ho, .int 3, .int (nI i), .int 7, .int 0]) X hP hD hS hl.1 o134.len (q_room l hst G kk (by omega) o134 (nI i) (7 : Int32) 0 ) sl_L_138 ⟨Nat.le_of_ble_eq_true rfl, Nat.le_of_ble_eq_true rfl, rfl, rfl⟩ ⟨by show _ ≤ 60; omega, by show _ ≤ 360; omega⟩ rfl (Nat.le_of_ble_eq_true rfl) dL_minute_345 (fun w135 r135 H locs hΦ a135 hP hD hS => ?_)
    obtain ⟨o135, rfl⟩ := hΦ
    replace a135 := a135.trans a134
    refine top_eq (y := (σ.1 (16 + 8 * i + 7) + 0)) (((qr_at okA (w := 7) h1i (by decide)).trans r7).trans (by rw [hd1]; rfl)) ?_
    refine lv_iload X.1 X.2.1 dL_minute_348 (lv_at hl 8 rfl) ?_
    refine lv_iload X.1 X.2.1 dL_minute_350 (lv_at hl 3 rfl) ?_
    refine lv_if_eq (tgt := 359) X.1 X.2.1 dL_minute_352 (by decide) (fun c_352 => ?_) (fun c_352 => absurd (by decide) c_352)
    refine lv_iconst (v := 0) X.1 X.2.1 dL_minute_359 (by decide) ?_
    refine lv_iadd X.1 X.2.1 dL_minute_360 ?_
    refine lv_icmp_ne (tgt := 416) X.1 X.2.1 dL_minute_361 (by decide) (fun c_361 => absurd (rfl) c_361) (fun c_361 => ?_)
    refine lv_aload_n X.1 X.2.1 dL_minute_364 rfl (lv_at hl 14 rfl) ?_
    refine lv_iconst (v := 2) X.1 X.2.1 dL_minute_365 (by decide) ?_
    refine lv_bipush (v := 8) X.1 X.2.1 dL_minute_366 (by decide) ?_
    refine lv_iconst (v := 0) X.1 X.2.1 dL_minute_368 (by decide) ?_
    refine lv_iconst (v := 0) X.1 X.2.1 dL_minute_369 (by decide) ?_
    refine kGL (rest := []) (As := [.ref ho, .int 2, .int 8, .int 0, .int 0]) X hP hD hS hl.1 o135.len (q_about l hst G kk (by omega) o135 (8 : Int32) 0 0 ) sl_L_138 ⟨Nat.le_of_ble_eq_true rfl, Nat.le_of_ble_eq_true rfl, rfl, rfl⟩ ⟨by show _ ≤ 60; omega, by show _ ≤ 360; omega⟩ rfl (Nat.le_of_ble_eq_true rfl) dL_minute_370 (fun w136 r136 H locs hΦ a136 hP hD hS => ?_)
    obtain ⟨o136, rfl⟩ := hΦ
    replace a136 := a136.trans a135
    refine top_eq (y := (σ.1 7 + (RUNF σ.1 1 7 - σ.1 7))) ((qa_8 σ1.1).trans (by rw [f1]; exact add_back (σ.1 7) (RUNF σ.1 1 7))) ?_
    refine lv_iload X.1 X.2.1 dL_minute_373 (lv_at hl 5 rfl) ?_
    refine lv_icmp_ne (tgt := 416) X.1 X.2.1 dL_minute_375 (by decide) (fun c_375 => absurd (rfl) c_375) (fun c_375 => ?_)
    refine lv_iload X.1 X.2.1 dL_minute_378 (lv_at hl 1 rfl) ?_
    refine lv_aload_n X.1 X.2.1 dL_minute_380 rfl (lv_at hl 14 rfl) ?_
    refine lv_iconst (v := 3) X.1 X.2.1 dL_minute_381 (by decide) ?_
    refine lv_iload X.1 X.2.1 dL_minute_382 (lv_at hl 12 rfl) ?_
    refine lv_iconst (v := 2) X.1 X.2.1 dL_minute_384 (by decide) ?_
    refine lv_iconst (v := 0) X.1 X.2.1 dL_minute_385 (by decide) ?_
    refine kGL (rest := [.int v15]) (As := [.ref ho, .int 3, .int (nI i), .int 2, .int 0]) X hP hD hS hl.1 o136.len (q_room l hst G kk (by omega) o136 (nI i) (2 : Int32) 0 ) sl_L_138 ⟨Nat.le_of_ble_eq_true rfl, Nat.le_of_ble_eq_true rfl, rfl, rfl⟩ ⟨by show _ ≤ 60; omega, by show _ ≤ 360; omega⟩ rfl (Nat.le_of_ble_eq_true rfl) dL_minute_386 (fun w137 r137 H locs hΦ a137 hP hD hS => ?_)
    obtain ⟨o137, rfl⟩ := hΦ
    replace a137 := a137.trans a136
    refine top_eq (y := (σ1.1 (16 + 8 * i + 2))) (qr_at okA (w := 2) h1i (by decide)) ?_
    have hw := p130
    rw [nI_cl (by omega)] at hw
    unfold WP at hw
    rw [← f1, r3, ← h15] at hw
    suffices J417 : W p l e (rmG 9 188 60 360) s m args below meth c H locs (((((((((((((((((0 + 1) + 1) + 1) + 1) + 1) + 1) + 1) + 1) + 1) + 1) + 1) + 1) + 1) + 1) + 1) + 1) + 1) (((((((((((((((((0 + 6) + 6) + 6) + 6) + 6) + 6) + 6) + 6) + 6) + 6) + 6) + 6) + 6) + 6) + 6) + 6) + 6) Q (F0 m 417 ls [.int 1]) by
      refine lv_icmp_lt (tgt := 406) X.1 X.2.1 dL_minute_389 (by decide) (fun c_389 => ?_) (fun c_389 => ?_)
      · skip
        refine lv_iload X.1 X.2.1 dL_minute_406 (lv_at hl 4 rfl) ?_
        refine lv_iconst (v := 1) X.1 X.2.1 dL_minute_408 (by decide) ?_
        refine lv_icmp_eq (tgt := 416) X.1 X.2.1 dL_minute_409 (by decide) (fun c_409 => absurd c_409 (hw.2 c_389)) (fun c_409 => ?_)
        refine lv_iconst (v := 1) X.1 X.2.1 dL_minute_412 (by decide) ?_
        refine lv_goto (tgt := 417) X.1 X.2.1 dL_minute_413 (by decide) ?_
        exact J417
      · skip
        refine lv_iload X.1 X.2.1 dL_minute_392 (lv_at hl 4 rfl) ?_
        refine lv_if_eq (tgt := 412) X.1 X.2.1 dL_minute_394 (by decide) (fun c_394 => ?_) (fun c_394 => ?_)
        · skip
          refine lv_iconst (v := 1) X.1 X.2.1 dL_minute_412 (by decide) ?_
          refine lv_goto (tgt := 417) X.1 X.2.1 dL_minute_413 (by decide) ?_
          exact J417
        · skip
          refine lv_iload X.1 X.2.1 dL_minute_397 (lv_at hl 4 rfl) ?_
          refine lv_iconst (v := 1) X.1 X.2.1 dL_minute_399 (by decide) ?_
          refine lv_icmp_ne (tgt := 416) X.1 X.2.1 dL_minute_400 (by decide) (fun c_400 => absurd ((hw.1 c_389).resolve_left c_394) c_400) (fun c_400 => ?_)
          refine lv_goto (tgt := 412) X.1 X.2.1 dL_minute_403 (by decide) ?_
          refine lv_iconst (v := 1) X.1 X.2.1 dL_minute_412 (by decide) ?_
          refine lv_goto (tgt := 417) X.1 X.2.1 dL_minute_413 (by decide) ?_
          exact J417
    refine lv_istore (lv' := [(17, .int 1), (16, .int v16), (15, .int v15), (14, .int 0), (13, .int 0), (12, .int r130), (11, .int ((σ.1 7) + (RUNF σ.1 1 7 - σ.1 7))), (10, .int (RUNF σ.1 1 5 - σ.1 5)), (9, .int (σ.1 (16 + 8 * i + 4))), (8, .int (σ.1 (16 + 8 * i + 7))), (7, .int (σ.1 (16 + 8 * i + 5))), (6, .int (σ.1 (16 + 8 * i + 3))), (5, .int 6), (4, .int (nI i)), (3, .int (nI (mF σ.1))), (0, .ref ho), (1, .ref hq), (2, .int (nI N))]) X.1 X.2.1 dL_minute_417 hl (by decide) rfl (fun ls hl => ?_)
    refine lv_iload X.1 X.2.1 dL_minute_419 (lv_at hl 0 rfl) ?_
    refine lv_if_eq (tgt := 486) X.1 X.2.1 dL_minute_421 (by decide) (fun c_421 => absurd c_421 (by decide)) (fun c_421 => ?_)
    refine lv_aload_n X.1 X.2.1 dL_minute_424 rfl (lv_at hl 15 rfl) ?_
    refine lv_bipush (v := 10) X.1 X.2.1 dL_minute_425 (by decide) ?_
    refine lv_iconst (v := 0) X.1 X.2.1 dL_minute_427 (by decide) ?_
    refine lv_iconst (v := 0) X.1 X.2.1 dL_minute_428 (by decide) ?_
    refine lv_iconst (v := 0) X.1 X.2.1 dL_minute_429 (by decide) ?_
    refine kGL (rest := []) (As := [.ref ho, .int 10, .int 0, .int 0, .int 0]) X hP hD hS hl.1 o137.len (q_undo l hst G kk (by omega) o137  0 0 0 (hc1)) sl_L_138 ⟨Nat.le_of_ble_eq_true rfl, Nat.le_of_ble_eq_true rfl, rfl, rfl⟩ ⟨by show _ ≤ 60; omega, by show _ ≤ 360; omega⟩ rfl (Nat.le_of_ble_eq_true rfl) dL_minute_430 (fun w138 r138 H locs hΦ a138 hP hD hS => ?_)
    obtain ⟨o138, rfl⟩ := hΦ
    replace a138 := a138.trans a137
    refine k_goI (k_runS (rest := []) (As := [.int (nI (σ1.2.1 - 1))]) X.1 X.2.1 X.2.2.1 X.2.2.2.1 X.2.2.2.2.1 X.2.2.2.2.2.1 hP hD hS X.2.2.2.2.2.2.1 X.2.2.2.2.2.2.2.1 hl.1 (c_L_thrown l G kk (nI (σ1.2.1 - 1))) sl_L_190 ⟨Nat.le_of_ble_eq_true rfl, Nat.le_of_ble_eq_true rfl, rfl, rfl⟩ [] rfl rfl ⟨by show _ ≤ 60; omega, by show _ ≤ 360; omega⟩ rfl (Nat.le_of_ble_eq_true rfl) dL_minute_433) hP hD hS X.2.2.2.2.2.2.1 [] rfl rfl (fun H locs hP hD hS => ?_)
    replace hP : va_P G vwCl (w138 ++ w132) H := hP
    replace hD : va_D A (w138 ++ w132) := hD
    refine top_eq (y := 0) (thrown_n (by omega)) ?_
    refine lv_if_ne (tgt := 486) X.1 X.2.1 dL_minute_436 (by decide) (fun c_436 => absurd (by decide) c_436) (fun c_436 => ?_)
    refine lv_aload_n X.1 X.2.1 dL_minute_439 rfl (lv_at hl 16 rfl) ?_
    refine lv_bipush (v := 10) X.1 X.2.1 dL_minute_440 (by decide) ?_
    refine lv_iconst (v := 0) X.1 X.2.1 dL_minute_442 (by decide) ?_
    refine lv_iconst (v := 0) X.1 X.2.1 dL_minute_443 (by decide) ?_
    refine lv_iconst (v := 0) X.1 X.2.1 dL_minute_444 (by decide) ?_
    refine kGR (rest := []) (As := [.ref hq, .int 10, .int 0, .int 0, .int 0]) X hP hD hS hl.1 o132.len o138.len (q_undo l hst G kk (by omega) o132  0 0 0 (hc1)) sl_L_138 ⟨Nat.le_of_ble_eq_true rfl, Nat.le_of_ble_eq_true rfl, rfl, rfl⟩ ⟨by show _ ≤ 60; omega, by show _ ≤ 360; omega⟩ rfl (Nat.le_of_ble_eq_true rfl) dL_minute_445 (fun w139 r139 H locs hΦ a139 hP hD hS => ?_)
    obtain ⟨o139, rfl⟩ := hΦ
    replace a139 := a139.trans a132
    refine k_goI (k_runS (rest := []) (As := [.int (nI (σ1.2.1 - 1))]) X.1 X.2.1 X.2.2.1 X.2.2.2.1 X.2.2.2.2.1 X.2.2.2.2.2.1 hP hD hS X.2.2.2.2.2.2.1 X.2.2.2.2.2.2.2.1 hl.1 (c_L_thrown l G kk (nI (σ1.2.1 - 1))) sl_L_190 ⟨Nat.le_of_ble_eq_true rfl, Nat.le_of_ble_eq_true rfl, rfl, rfl⟩ [] rfl rfl ⟨by show _ ≤ 60; omega, by show _ ≤ 360; omega⟩ rfl (Nat.le_of_ble_eq_true rfl) dL_minute_448) hP hD hS X.2.2.2.2.2.2.1 [] rfl rfl (fun H locs hP hD hS => ?_)
    replace hP : va_P G vwCl (w138 ++ w139) H := hP
    replace hD : va_D A (w138 ++ w139) := hD
    refine top_eq (y := 0) (thrown_n (by omega)) ?_
    refine lv_if_ne (tgt := 486) X.1 X.2.1 dL_minute_451 (by decide) (fun c_451 => absurd (by decide) c_451) (fun c_451 => ?_)
    refine lv_aload_n X.1 X.2.1 dL_minute_454 rfl (lv_at hl 15 rfl) ?_
    refine lv_iconst (v := 3) X.1 X.2.1 dL_minute_455 (by decide) ?_
    refine lv_iload X.1 X.2.1 dL_minute_456 (lv_at hl 13 rfl) ?_
    refine lv_iconst (v := 3) X.1 X.2.1 dL_minute_458 (by decide) ?_
    refine lv_iconst (v := 0) X.1 X.2.1 dL_minute_459 (by decide) ?_
    refine kGL (rest := []) (As := [.ref ho, .int 3, .int (nI i), .int 3, .int 0]) X hP hD hS hl.1 o138.len (q_room l hst G kk (by omega) o138 (nI i) (3 : Int32) 0 ) sl_L_138 ⟨Nat.le_of_ble_eq_true rfl, Nat.le_of_ble_eq_true rfl, rfl, rfl⟩ ⟨by show _ ≤ 60; omega, by show _ ≤ 360; omega⟩ rfl (Nat.le_of_ble_eq_true rfl) dL_minute_460 (fun w140 r140 H locs hΦ a140 hP hD hS => ?_)
    obtain ⟨o140, rfl⟩ := hΦ
    replace a140 := a140.trans a138
    refine top_eq (y := (σ.1 (16 + 8 * i + 3))) ((by rw [f2]; exact qr_at ok (w := 3) hi (by decide))) ?_
    refine lv_iload X.1 X.2.1 dL_minute_463 (lv_at hl 11 rfl) ?_
    refine lv_icmp_ne (tgt := 486) X.1 X.2.1 dL_minute_465 (by decide) (fun c_465 => absurd (rfl) c_465) (fun c_465 => ?_)
    refine lv_aload_n X.1 X.2.1 dL_minute_468 rfl (lv_at hl 15 rfl) ?_
    refine lv_iconst (v := 4) X.1 X.2.1 dL_minute_469 (by decide) ?_
    refine lv_iload X.1 X.2.1 dL_minute_470 (lv_at hl 13 rfl) ?_
    refine lv_iconst (v := 0) X.1 X.2.1 dL_minute_472 (by decide) ?_
    refine lv_iconst (v := 0) X.1 X.2.1 dL_minute_473 (by decide) ?_
    refine kGL (rest := []) (As := [.ref ho, .int 4, .int (nI i), .int 0, .int 0]) X hP hD hS hl.1 o140.len (q_does l hst G kk (by omega) o140 (nI i) 0 0 ) sl_L_138 ⟨Nat.le_of_ble_eq_true rfl, Nat.le_of_ble_eq_true rfl, rfl, rfl⟩ ⟨by show _ ≤ 60; omega, by show _ ≤ 360; omega⟩ rfl (Nat.le_of_ble_eq_true rfl) dL_minute_474 (fun w141 r141 H locs hΦ a141 hP hD hS => ?_)
    obtain ⟨o141, rfl⟩ := hΦ
    replace a141 := a141.trans a140
    refine top_eq (y := 6) ((by rw [f2]; exact (qd_at ok hi).trans hd1)) ?_
    refine lv_iload X.1 X.2.1 dL_minute_477 (lv_at hl 12 rfl) ?_
    refine lv_icmp_ne (tgt := 486) X.1 X.2.1 dL_minute_479 (by decide) (fun c_479 => absurd (by decide) c_479) (fun c_479 => ?_)
    refine lv_iconst (v := 1) X.1 X.2.1 dL_minute_482 (by decide) ?_
    refine lv_goto (tgt := 487) X.1 X.2.1 dL_minute_483 (by decide) ?_
    refine W.widen (k := 60) (n := 360) (by omega) (by omega) ?_
    exact FIN _ 1 H locs ls 487 ⟨⟨_, _, rfl, o141, o139⟩, rfl⟩ (ads_app a141 a139) hP hD hS (fun _ => rfl) dL_minute_487
  · skip
    refine kGL (rest := []) (As := [.ref ho, .int 4, .int (nI i), .int 0, .int 0]) X hP hD hS hl.1 o1.len (q_does l hst G kk (by omega) o1 (nI i) 0 0 ) sl_L_138 ⟨Nat.le_of_ble_eq_true rfl, Nat.le_of_ble_eq_true rfl, rfl, rfl⟩ ⟨by show _ ≤ 60; omega, by show _ ≤ 360; omega⟩ rfl (Nat.le_of_ble_eq_true rfl) dL_minute_20 (fun w142 r142 H locs hΦ a142 hP hD hS => ?_)
    obtain ⟨o142, rfl⟩ := hΦ
    replace a142 := a142.trans a1
    refine top_eq (y := 7) ((qd_at ok hi).trans hd1) ?_
    refine lv_istore (lv' := [(5, .int 7), (4, .int (nI i)), (3, .int (nI (mF σ.1))), (0, .ref ho), (1, .ref hq), (2, .int (nI N))]) X.1 X.2.1 dL_minute_23 hl (by decide) rfl (fun ls hl => ?_)
    refine lv_aload_n X.1 X.2.1 dL_minute_25 rfl (lv_at hl 3 rfl) ?_
    refine lv_iconst (v := 3) X.1 X.2.1 dL_minute_26 (by decide) ?_
    refine lv_iload X.1 X.2.1 dL_minute_27 (lv_at hl 1 rfl) ?_
    refine lv_iconst (v := 3) X.1 X.2.1 dL_minute_29 (by decide) ?_
    refine lv_iconst (v := 0) X.1 X.2.1 dL_minute_30 (by decide) ?_
    refine kGL (rest := []) (As := [.ref ho, .int 3, .int (nI i), .int 3, .int 0]) X hP hD hS hl.1 o142.len (q_room l hst G kk (by omega) o142 (nI i) (3 : Int32) 0 ) sl_L_138 ⟨Nat.le_of_ble_eq_true rfl, Nat.le_of_ble_eq_true rfl, rfl, rfl⟩ ⟨by show _ ≤ 60; omega, by show _ ≤ 360; omega⟩ rfl (Nat.le_of_ble_eq_true rfl) dL_minute_31 (fun w143 r143 H locs hΦ a143 hP hD hS => ?_)
    obtain ⟨o143, rfl⟩ := hΦ
    replace a143 := a143.trans a142
    refine top_eq (y := (σ.1 (16 + 8 * i + 3))) (qr_at ok (w := 3) hi (by decide)) ?_
    refine lv_istore (lv' := [(6, .int (σ.1 (16 + 8 * i + 3))), (5, .int 7), (4, .int (nI i)), (3, .int (nI (mF σ.1))), (0, .ref ho), (1, .ref hq), (2, .int (nI N))]) X.1 X.2.1 dL_minute_34 hl (by decide) rfl (fun ls hl => ?_)
    refine lv_aload_n X.1 X.2.1 dL_minute_36 rfl (lv_at hl 4 rfl) ?_
    refine lv_iconst (v := 3) X.1 X.2.1 dL_minute_37 (by decide) ?_
    refine lv_iload X.1 X.2.1 dL_minute_38 (lv_at hl 2 rfl) ?_
    refine lv_iconst (v := 5) X.1 X.2.1 dL_minute_40 (by decide) ?_
    refine lv_iconst (v := 0) X.1 X.2.1 dL_minute_41 (by decide) ?_
    refine kGL (rest := []) (As := [.ref ho, .int 3, .int (nI i), .int 5, .int 0]) X hP hD hS hl.1 o143.len (q_room l hst G kk (by omega) o143 (nI i) (5 : Int32) 0 ) sl_L_138 ⟨Nat.le_of_ble_eq_true rfl, Nat.le_of_ble_eq_true rfl, rfl, rfl⟩ ⟨by show _ ≤ 60; omega, by show _ ≤ 360; omega⟩ rfl (Nat.le_of_ble_eq_true rfl) dL_minute_42 (fun w144 r144 H locs hΦ a144 hP hD hS => ?_)
    obtain ⟨o144, rfl⟩ := hΦ
    replace a144 := a144.trans a143
    refine top_eq (y := (σ.1 (16 + 8 * i + 5))) (qr_at ok (w := 5) hi (by decide)) ?_
    refine lv_istore (lv' := [(7, .int (σ.1 (16 + 8 * i + 5))), (6, .int (σ.1 (16 + 8 * i + 3))), (5, .int 7), (4, .int (nI i)), (3, .int (nI (mF σ.1))), (0, .ref ho), (1, .ref hq), (2, .int (nI N))]) X.1 X.2.1 dL_minute_45 hl (by decide) rfl (fun ls hl => ?_)
    refine lv_aload_n X.1 X.2.1 dL_minute_47 rfl (lv_at hl 5 rfl) ?_
    refine lv_iconst (v := 3) X.1 X.2.1 dL_minute_48 (by decide) ?_
    refine lv_iload X.1 X.2.1 dL_minute_49 (lv_at hl 3 rfl) ?_
    refine lv_bipush (v := 7) X.1 X.2.1 dL_minute_51 (by decide) ?_
    refine lv_iconst (v := 0) X.1 X.2.1 dL_minute_53 (by decide) ?_
    refine kGL (rest := []) (As := [.ref ho, .int 3, .int (nI i), .int 7, .int 0]) X hP hD hS hl.1 o144.len (q_room l hst G kk (by omega) o144 (nI i) (7 : Int32) 0 ) sl_L_138 ⟨Nat.le_of_ble_eq_true rfl, Nat.le_of_ble_eq_true rfl, rfl, rfl⟩ ⟨by show _ ≤ 60; omega, by show _ ≤ 360; omega⟩ rfl (Nat.le_of_ble_eq_true rfl) dL_minute_54 (fun w145 r145 H locs hΦ a145 hP hD hS => ?_)
    obtain ⟨o145, rfl⟩ := hΦ
    replace a145 := a145.trans a144
    refine top_eq (y := (σ.1 (16 + 8 * i + 7))) (qr_at ok (w := 7) hi (by decide)) ?_
    refine lv_istore (lv' := [(8, .int (σ.1 (16 + 8 * i + 7))), (7, .int (σ.1 (16 + 8 * i + 5))), (6, .int (σ.1 (16 + 8 * i + 3))), (5, .int 7), (4, .int (nI i)), (3, .int (nI (mF σ.1))), (0, .ref ho), (1, .ref hq), (2, .int (nI N))]) X.1 X.2.1 dL_minute_57 hl (by decide) rfl (fun ls hl => ?_)
    refine lv_aload_n X.1 X.2.1 dL_minute_59 rfl (lv_at hl 6 rfl) ?_
    refine lv_iconst (v := 3) X.1 X.2.1 dL_minute_60 (by decide) ?_
    refine lv_iload X.1 X.2.1 dL_minute_61 (lv_at hl 4 rfl) ?_
    refine lv_iconst (v := 4) X.1 X.2.1 dL_minute_63 (by decide) ?_
    refine lv_iconst (v := 0) X.1 X.2.1 dL_minute_64 (by decide) ?_
    refine kGL (rest := []) (As := [.ref ho, .int 3, .int (nI i), .int 4, .int 0]) X hP hD hS hl.1 o145.len (q_room l hst G kk (by omega) o145 (nI i) (4 : Int32) 0 ) sl_L_138 ⟨Nat.le_of_ble_eq_true rfl, Nat.le_of_ble_eq_true rfl, rfl, rfl⟩ ⟨by show _ ≤ 60; omega, by show _ ≤ 360; omega⟩ rfl (Nat.le_of_ble_eq_true rfl) dL_minute_65 (fun w146 r146 H locs hΦ a146 hP hD hS => ?_)
    obtain ⟨o146, rfl⟩ := hΦ
    replace a146 := a146.trans a145
    refine top_eq (y := (σ.1 (16 + 8 * i + 4))) (qr_at ok (w := 4) hi (by decide)) ?_
    refine lv_istore (lv' := [(9, .int (σ.1 (16 + 8 * i + 4))), (8, .int (σ.1 (16 + 8 * i + 7))), (7, .int (σ.1 (16 + 8 * i + 5))), (6, .int (σ.1 (16 + 8 * i + 3))), (5, .int 7), (4, .int (nI i)), (3, .int (nI (mF σ.1))), (0, .ref ho), (1, .ref hq), (2, .int (nI N))]) X.1 X.2.1 dL_minute_68 hl (by decide) rfl (fun ls hl => ?_)
    refine lv_aload_n X.1 X.2.1 dL_minute_70 rfl (lv_at hl 7 rfl) ?_
    refine lv_bipush (v := 12) X.1 X.2.1 dL_minute_71 (by decide) ?_
    refine lv_iconst (v := 1) X.1 X.2.1 dL_minute_73 (by decide) ?_
    refine lv_iconst (v := 0) X.1 X.2.1 dL_minute_74 (by decide) ?_
    refine lv_iconst (v := 0) X.1 X.2.1 dL_minute_75 (by decide) ?_
    refine kGL (rest := []) (As := [.ref ho, .int 12, .int 1, .int 0, .int 0]) X hP hD hS hl.1 o146.len (q_coming l hst G kk (by omega) o146 (1 : Int32) (0 : Int32) 0 (rfl) (Or.inl rfl)) sl_L_138 ⟨Nat.le_of_ble_eq_true rfl, Nat.le_of_ble_eq_true rfl, rfl, rfl⟩ ⟨by show _ ≤ 60; omega, by show _ ≤ 360; omega⟩ rfl (Nat.le_of_ble_eq_true rfl) dL_minute_76 (fun w147 r147 H locs hΦ a147 hP hD hS => ?_)
    obtain ⟨o147, rfl⟩ := hΦ
    replace a147 := a147.trans a146
    refine top_eq (y := (RUNF σ.1 1 5 - σ.1 5)) (if_pos rfl) ?_
    refine lv_istore (lv' := [(10, .int (RUNF σ.1 1 5 - σ.1 5)), (9, .int (σ.1 (16 + 8 * i + 4))), (8, .int (σ.1 (16 + 8 * i + 7))), (7, .int (σ.1 (16 + 8 * i + 5))), (6, .int (σ.1 (16 + 8 * i + 3))), (5, .int 7), (4, .int (nI i)), (3, .int (nI (mF σ.1))), (0, .ref ho), (1, .ref hq), (2, .int (nI N))]) X.1 X.2.1 dL_minute_79 hl (by decide) rfl (fun ls hl => ?_)
    refine lv_aload_n X.1 X.2.1 dL_minute_81 rfl (lv_at hl 8 rfl) ?_
    refine lv_iconst (v := 2) X.1 X.2.1 dL_minute_82 (by decide) ?_
    refine lv_bipush (v := 8) X.1 X.2.1 dL_minute_83 (by decide) ?_
    refine lv_iconst (v := 0) X.1 X.2.1 dL_minute_85 (by decide) ?_
    refine lv_iconst (v := 0) X.1 X.2.1 dL_minute_86 (by decide) ?_
    refine kGL (rest := []) (As := [.ref ho, .int 2, .int 8, .int 0, .int 0]) X hP hD hS hl.1 o147.len (q_about l hst G kk (by omega) o147 (8 : Int32) 0 0 ) sl_L_138 ⟨Nat.le_of_ble_eq_true rfl, Nat.le_of_ble_eq_true rfl, rfl, rfl⟩ ⟨by show _ ≤ 60; omega, by show _ ≤ 360; omega⟩ rfl (Nat.le_of_ble_eq_true rfl) dL_minute_87 (fun w148 r148 H locs hΦ a148 hP hD hS => ?_)
    obtain ⟨o148, rfl⟩ := hΦ
    replace a148 := a148.trans a147
    refine top_eq (y := (σ.1 7)) (qa_8 σ.1) ?_
    refine lv_aload_n X.1 X.2.1 dL_minute_90 rfl (lv_at hl 8 rfl) ?_
    refine lv_bipush (v := 12) X.1 X.2.1 dL_minute_91 (by decide) ?_
    refine lv_iconst (v := 1) X.1 X.2.1 dL_minute_93 (by decide) ?_
    refine lv_iconst (v := 3) X.1 X.2.1 dL_minute_94 (by decide) ?_
    refine lv_iconst (v := 0) X.1 X.2.1 dL_minute_95 (by decide) ?_
    refine kGL (rest := [.int (σ.1 7)]) (As := [.ref ho, .int 12, .int 1, .int 3, .int 0]) X hP hD hS hl.1 o148.len (q_coming l hst G kk (by omega) o148 (1 : Int32) (3 : Int32) 0 (rfl) (Or.inr rfl)) sl_L_138 ⟨Nat.le_of_ble_eq_true rfl, Nat.le_of_ble_eq_true rfl, rfl, rfl⟩ ⟨by show _ ≤ 60; omega, by show _ ≤ 360; omega⟩ rfl (Nat.le_of_ble_eq_true rfl) dL_minute_96 (fun w149 r149 H locs hΦ a149 hP hD hS => ?_)
    obtain ⟨o149, rfl⟩ := hΦ
    replace a149 := a149.trans a148
    refine top_eq (y := (RUNF σ.1 1 7 - σ.1 7)) (if_neg (by decide)) ?_
    refine lv_iadd X.1 X.2.1 dL_minute_99 ?_
    refine lv_istore (lv' := [(11, .int ((σ.1 7) + (RUNF σ.1 1 7 - σ.1 7))), (10, .int (RUNF σ.1 1 5 - σ.1 5)), (9, .int (σ.1 (16 + 8 * i + 4))), (8, .int (σ.1 (16 + 8 * i + 7))), (7, .int (σ.1 (16 + 8 * i + 5))), (6, .int (σ.1 (16 + 8 * i + 3))), (5, .int 7), (4, .int (nI i)), (3, .int (nI (mF σ.1))), (0, .ref ho), (1, .ref hq), (2, .int (nI N))]) X.1 X.2.1 dL_minute_100 hl (by decide) rfl (fun ls hl => ?_)
    refine lv_aload_n X.1 X.2.1 dL_minute_102 rfl (lv_at hl 9 rfl) ?_
    refine lv_bipush (v := 11) X.1 X.2.1 dL_minute_103 (by decide) ?_
    refine lv_iload X.1 X.2.1 dL_minute_105 (lv_at hl 7 rfl) ?_
    refine lv_iconst (v := 0) X.1 X.2.1 dL_minute_107 (by decide) ?_
    refine lv_iconst (v := 0) X.1 X.2.1 dL_minute_108 (by decide) ?_
    refine kGL (rest := []) (As := [.ref ho, .int 11, .int (nI i), .int 0, .int 0]) X hP hD hS hl.1 o149.len (q_warm l hst G kk (by omega) o149 (nI i) 0 0 (ir_yes ok hi)) sl_L_138 ⟨Nat.le_of_ble_eq_true rfl, Nat.le_of_ble_eq_true rfl, rfl, rfl⟩ ⟨by show _ ≤ 60; omega, by show _ ≤ 360; omega⟩ rfl (Nat.le_of_ble_eq_true rfl) dL_minute_109 (fun w150 r150 H locs hΦ a150 hP hD hS => ?_)
    obtain ⟨o150, p150⟩ := hΦ
    replace a150 := a150.trans a149
    refine lv_istore (lv' := [(12, .int r150), (11, .int ((σ.1 7) + (RUNF σ.1 1 7 - σ.1 7))), (10, .int (RUNF σ.1 1 5 - σ.1 5)), (9, .int (σ.1 (16 + 8 * i + 4))), (8, .int (σ.1 (16 + 8 * i + 7))), (7, .int (σ.1 (16 + 8 * i + 5))), (6, .int (σ.1 (16 + 8 * i + 3))), (5, .int 7), (4, .int (nI i)), (3, .int (nI (mF σ.1))), (0, .ref ho), (1, .ref hq), (2, .int (nI N))]) X.1 X.2.1 dL_minute_112 hl (by decide) rfl (fun ls hl => ?_)
    refine lv_iload X.1 X.2.1 dL_minute_114 (lv_at hl 7 rfl) ?_
    refine lv_iconst (v := 1) X.1 X.2.1 dL_minute_116 (by decide) ?_
    refine lv_icmp_eq (tgt := 126) X.1 X.2.1 dL_minute_117 (by decide) (fun c_117 => absurd c_117 (by decide)) (fun c_117 => ?_)
    refine lv_iload X.1 X.2.1 dL_minute_120 (lv_at hl 7 rfl) ?_
    refine lv_iconst (v := 3) X.1 X.2.1 dL_minute_122 (by decide) ?_
    refine lv_icmp_ne (tgt := 130) X.1 X.2.1 dL_minute_123 (by decide) (fun c_123 => ?_) (fun c_123 => absurd c_123 (by decide))
    refine lv_iconst (v := 0) X.1 X.2.1 dL_minute_130 (by decide) ?_
    refine lv_istore (lv' := [(13, .int 0), (12, .int r150), (11, .int ((σ.1 7) + (RUNF σ.1 1 7 - σ.1 7))), (10, .int (RUNF σ.1 1 5 - σ.1 5)), (9, .int (σ.1 (16 + 8 * i + 4))), (8, .int (σ.1 (16 + 8 * i + 7))), (7, .int (σ.1 (16 + 8 * i + 5))), (6, .int (σ.1 (16 + 8 * i + 3))), (5, .int 7), (4, .int (nI i)), (3, .int (nI (mF σ.1))), (0, .ref ho), (1, .ref hq), (2, .int (nI N))]) X.1 X.2.1 dL_minute_131 hl (by decide) rfl (fun ls hl => ?_)
    refine lv_iload X.1 X.2.1 dL_minute_133 (lv_at hl 8 rfl) ?_
    refine lv_if_eq (tgt := 150) X.1 X.2.1 dL_minute_135 (by decide) (fun c_135 => absurd c_135 (by decide)) (fun c_135 => ?_)
    refine lv_iload X.1 X.2.1 dL_minute_138 (lv_at hl 8 rfl) ?_
    refine lv_iconst (v := 2) X.1 X.2.1 dL_minute_140 (by decide) ?_
    refine lv_icmp_eq (tgt := 150) X.1 X.2.1 dL_minute_141 (by decide) (fun c_141 => absurd c_141 (by decide)) (fun c_141 => ?_)
    refine lv_iload X.1 X.2.1 dL_minute_144 (lv_at hl 8 rfl) ?_
    refine lv_iconst (v := 5) X.1 X.2.1 dL_minute_146 (by decide) ?_
    refine lv_icmp_ne (tgt := 154) X.1 X.2.1 dL_minute_147 (by decide) (fun c_147 => ?_) (fun c_147 => absurd c_147 (by decide))
    refine lv_iconst (v := 0) X.1 X.2.1 dL_minute_154 (by decide) ?_
    refine lv_istore (lv' := [(14, .int 0), (13, .int 0), (12, .int r150), (11, .int ((σ.1 7) + (RUNF σ.1 1 7 - σ.1 7))), (10, .int (RUNF σ.1 1 5 - σ.1 5)), (9, .int (σ.1 (16 + 8 * i + 4))), (8, .int (σ.1 (16 + 8 * i + 7))), (7, .int (σ.1 (16 + 8 * i + 5))), (6, .int (σ.1 (16 + 8 * i + 3))), (5, .int 7), (4, .int (nI i)), (3, .int (nI (mF σ.1))), (0, .ref ho), (1, .ref hq), (2, .int (nI N))]) X.1 X.2.1 dL_minute_155 hl (by decide) rfl (fun ls hl => ?_)
    refine lv_iload X.1 X.2.1 dL_minute_157 (lv_at hl 8 rfl) ?_
    refine lv_iload X.1 X.2.1 dL_minute_159 (lv_at hl 1 rfl) ?_
    refine lv_if_eq (tgt := 175) X.1 X.2.1 dL_minute_161 (by decide) (fun c_161 => ?_) (fun c_161 => absurd (by decide) c_161)
    refine lv_iload X.1 X.2.1 dL_minute_175 (lv_at hl 0 rfl) ?_
    refine lv_if_eq (tgt := 185) X.1 X.2.1 dL_minute_177 (by decide) (fun c_177 => ?_) (fun c_177 => absurd (by decide) c_177)
    refine lv_iconst (v := 1) X.1 X.2.1 dL_minute_185 (by decide) ?_
    refine lv_iadd X.1 X.2.1 dL_minute_186 ?_
    refine lv_iconst (v := 4) X.1 X.2.1 dL_minute_187 (by decide) ?_
    refine lv_iload X.1 X.2.1 dL_minute_188 (lv_at hl 5 rfl) ?_
    refine lv_imul X.1 X.2.1 dL_minute_190 ?_
    refine lv_iadd X.1 X.2.1 dL_minute_191 ?_
    refine lv_istore (lv' := [(15, .int (((σ.1 (16 + 8 * i + 3)) + 1) + (4 * (σ.1 (16 + 8 * i + 4))))), (14, .int 0), (13, .int 0), (12, .int r150), (11, .int ((σ.1 7) + (RUNF σ.1 1 7 - σ.1 7))), (10, .int (RUNF σ.1 1 5 - σ.1 5)), (9, .int (σ.1 (16 + 8 * i + 4))), (8, .int (σ.1 (16 + 8 * i + 7))), (7, .int (σ.1 (16 + 8 * i + 5))), (6, .int (σ.1 (16 + 8 * i + 3))), (5, .int 7), (4, .int (nI i)), (3, .int (nI (mF σ.1))), (0, .ref ho), (1, .ref hq), (2, .int (nI N))]) X.1 X.2.1 dL_minute_192 hl (by decide) rfl (fun ls hl => ?_)
    refine lv_iload X.1 X.2.1 dL_minute_194 (lv_at hl 0 rfl) ?_
    refine lv_sipush (v := 400) X.1 X.2.1 dL_minute_196 (by decide) ?_
    have eT : sX8_clamp ((((σ.1 (16 + 8 * i + 3)) + 1) + (4 * (σ.1 (16 + 8 * i + 4))))) (-400) 400 = Tn σ.1 (JB σ.1 i) i := by rw [hd1]; exact tn_val (x := 7) hz
    suffices J15 : ∀ v15 : Int32, v15 = Tn σ.1 (JB σ.1 i) i → W p l e (rmG 9 188 60 360) s m args below meth c H locs ((((((((((0 + 1) + 1) + 1) + 1) + 1) + 1) + 1) + 1) + 1) + 1) ((((((((((0 + 6) + 6) + 6) + 6) + 6) + 6) + 6) + 6) + 6) + 6) Q (F0 m 224 ls [.int v15]) by
      refine lv_icmp_le (tgt := 208) X.1 X.2.1 dL_minute_199 (by decide) (fun c_199 => ?_) (fun c_199 => ?_)
      · skip
        refine lv_iload X.1 X.2.1 dL_minute_208 (lv_at hl 0 rfl) ?_
        refine lv_sipush (v := (-400)) X.1 X.2.1 dL_minute_210 (by decide) ?_
        refine lv_icmp_ge (tgt := 222) X.1 X.2.1 dL_minute_213 (by decide) (fun c_213 => ?_) (fun c_213 => ?_)
        · skip
          refine lv_iload X.1 X.2.1 dL_minute_222 (lv_at hl 0 rfl) ?_
          exact J15 _ ((cl_mid c_199 c_213).trans eT)
        · skip
          refine lv_sipush (v := (-400)) X.1 X.2.1 dL_minute_216 (by decide) ?_
          refine lv_goto (tgt := 224) X.1 X.2.1 dL_minute_219 (by decide) ?_
          exact J15 _ ((cl_lo c_213).trans eT)
      · skip
        refine lv_sipush (v := 400) X.1 X.2.1 dL_minute_202 (by decide) ?_
        refine lv_goto (tgt := 224) X.1 X.2.1 dL_minute_205 (by decide) ?_
        exact J15 _ ((cl_hi c_199).trans eT)
    intro v15 h15
    refine lv_istore (lv' := [(15, .int v15), (14, .int 0), (13, .int 0), (12, .int r150), (11, .int ((σ.1 7) + (RUNF σ.1 1 7 - σ.1 7))), (10, .int (RUNF σ.1 1 5 - σ.1 5)), (9, .int (σ.1 (16 + 8 * i + 4))), (8, .int (σ.1 (16 + 8 * i + 7))), (7, .int (σ.1 (16 + 8 * i + 5))), (6, .int (σ.1 (16 + 8 * i + 3))), (5, .int 7), (4, .int (nI i)), (3, .int (nI (mF σ.1))), (0, .ref ho), (1, .ref hq), (2, .int (nI N))]) X.1 X.2.1 dL_minute_224 hl (by decide) rfl (fun ls hl => ?_)
    refine lv_iload X.1 X.2.1 dL_minute_226 (lv_at hl 1 rfl) ?_
    refine lv_if_eq (tgt := 250) X.1 X.2.1 dL_minute_228 (by decide) (fun c_228 => ?_) (fun c_228 => absurd (by decide) c_228)
    refine lv_iload X.1 X.2.1 dL_minute_250 (lv_at hl 8 rfl) ?_
    refine lv_iload X.1 X.2.1 dL_minute_252 (lv_at hl 2 rfl) ?_
    refine lv_if_eq (tgt := 261) X.1 X.2.1 dL_minute_254 (by decide) (fun c_254 => ?_) (fun c_254 => absurd (by decide) c_254)
    refine lv_iconst (v := 0) X.1 X.2.1 dL_minute_261 (by decide) ?_
    refine lv_iadd X.1 X.2.1 dL_minute_262 ?_
    refine lv_iconst (v := 2) X.1 X.2.1 dL_minute_263 (by decide) ?_
    refine lv_iload X.1 X.2.1 dL_minute_264 (lv_at hl 6 rfl) ?_
    refine lv_imul X.1 X.2.1 dL_minute_266 ?_
    refine lv_iadd X.1 X.2.1 dL_minute_267 ?_
    obtain ⟨v16, h16e⟩ : ∃ v16, v16 = (((σ.1 (16 + 8 * i + 5)) + 0) + (2 * (σ.1 (16 + 8 * i + 4)))) := ⟨_, rfl⟩
    have h16 : (if v16 ≤ 100 then v16 else 100) = Fn σ.1 (JB σ.1 i) i := by rw [h16e, hd1]; exact fn_un hz hf0 hf1 (by decide) (by decide)
    refine top_eq (y := v16) (h16e.symm) ?_
    refine lv_istore (lv' := [(16, .int v16), (15, .int v15), (14, .int 0), (13, .int 0), (12, .int r150), (11, .int ((σ.1 7) + (RUNF σ.1 1 7 - σ.1 7))), (10, .int (RUNF σ.1 1 5 - σ.1 5)), (9, .int (σ.1 (16 + 8 * i + 4))), (8, .int (σ.1 (16 + 8 * i + 7))), (7, .int (σ.1 (16 + 8 * i + 5))), (6, .int (σ.1 (16 + 8 * i + 3))), (5, .int 7), (4, .int (nI i)), (3, .int (nI (mF σ.1))), (0, .ref ho), (1, .ref hq), (2, .int (nI N))]) X.1 X.2.1 dL_minute_268 hl (by decide) rfl (fun ls hl => ?_)
    refine lv_aload_n X.1 X.2.1 dL_minute_270 rfl (lv_at hl 14 rfl) ?_
    refine lv_bipush (v := 8) X.1 X.2.1 dL_minute_271 (by decide) ?_
    refine lv_iconst (v := 1) X.1 X.2.1 dL_minute_273 (by decide) ?_
    refine lv_iconst (v := 0) X.1 X.2.1 dL_minute_274 (by decide) ?_
    refine lv_iconst (v := 0) X.1 X.2.1 dL_minute_275 (by decide) ?_
    refine kGL (rest := []) (As := [.ref ho, .int 8, .int 1, .int 0, .int 0]) X hP hD hS hl.1 o150.len (q_run l hst G kk (by omega) o150 (1 : Int32) 0 0 (by decide)) sl_L_138 ⟨Nat.le_of_ble_eq_true rfl, Nat.le_of_ble_eq_true rfl, rfl, rfl⟩ ⟨by show _ ≤ 60; omega, by show _ ≤ 360; omega⟩ rfl (Nat.le_of_ble_eq_true rfl) dL_minute_276 (fun w151 r151 H locs hΦ a151 hP hD hS => ?_)
    obtain ⟨o151, rfl⟩ := hΦ
    replace a151 := a151.trans a150
    replace o151 : OB kk (B + 60) σ1 ho w151 := by rw [hσ]; exact o151
    have okA := o151.row.1
    have h1i : i < mF σ1.1 := by rw [m1]; exact hi
    refine top_eq (y := (RUNF σ.1 1 5 - σ.1 5)) (by rw [show (1 : Int32).toNatClampNeg = 1 from rfl]) ?_
    refine lv_iload X.1 X.2.1 dL_minute_279 (lv_at hl 6 rfl) ?_
    refine lv_icmp_ne (tgt := 416) X.1 X.2.1 dL_minute_281 (by decide) (fun c_281 => absurd (rfl) c_281) (fun c_281 => ?_)
    refine lv_aload_n X.1 X.2.1 dL_minute_284 rfl (lv_at hl 15 rfl) ?_
    refine lv_bipush (v := 8) X.1 X.2.1 dL_minute_285 (by decide) ?_
    refine lv_iconst (v := 1) X.1 X.2.1 dL_minute_287 (by decide) ?_
    refine lv_iconst (v := 0) X.1 X.2.1 dL_minute_288 (by decide) ?_
    refine lv_iconst (v := 0) X.1 X.2.1 dL_minute_289 (by decide) ?_
    refine kGR (rest := []) (As := [.ref hq, .int 8, .int 1, .int 0, .int 0]) X hP hD hS hl.1 ob.len o151.len (q_run l hst G kk (by omega) ob (1 : Int32) 0 0 (by decide)) sl_L_138 ⟨Nat.le_of_ble_eq_true rfl, Nat.le_of_ble_eq_true rfl, rfl, rfl⟩ ⟨by show _ ≤ 60; omega, by show _ ≤ 360; omega⟩ rfl (Nat.le_of_ble_eq_true rfl) dL_minute_290 (fun w152 r152 H locs hΦ a152 hP hD hS => ?_)
    obtain ⟨o152, rfl⟩ := hΦ
    replace a152 := a152.trans b0
    replace o152 : OB kk (B + 60) σ1 hq w152 := by rw [hσ]; exact o152
    refine top_eq (y := (RUNF σ.1 1 5 - σ.1 5)) (by rw [show (1 : Int32).toNatClampNeg = 1 from rfl]) ?_
    refine lv_iload X.1 X.2.1 dL_minute_293 (lv_at hl 6 rfl) ?_
    refine lv_icmp_ne (tgt := 416) X.1 X.2.1 dL_minute_295 (by decide) (fun c_295 => absurd (rfl) c_295) (fun c_295 => ?_)
    refine lv_aload_n X.1 X.2.1 dL_minute_298 rfl (lv_at hl 14 rfl) ?_
    refine lv_iconst (v := 3) X.1 X.2.1 dL_minute_299 (by decide) ?_
    refine lv_iload X.1 X.2.1 dL_minute_300 (lv_at hl 12 rfl) ?_
    refine lv_iconst (v := 3) X.1 X.2.1 dL_minute_302 (by decide) ?_
    refine lv_iconst (v := 0) X.1 X.2.1 dL_minute_303 (by decide) ?_
    refine kGL (rest := []) (As := [.ref ho, .int 3, .int (nI i), .int 3, .int 0]) X hP hD hS hl.1 o151.len (q_room l hst G kk (by omega) o151 (nI i) (3 : Int32) 0 ) sl_L_138 ⟨Nat.le_of_ble_eq_true rfl, Nat.le_of_ble_eq_true rfl, rfl, rfl⟩ ⟨by show _ ≤ 60; omega, by show _ ≤ 360; omega⟩ rfl (Nat.le_of_ble_eq_true rfl) dL_minute_304 (fun w153 r153 H locs hΦ a153 hP hD hS => ?_)
    obtain ⟨o153, rfl⟩ := hΦ
    replace a153 := a153.trans a151
    refine top_eq (y := (Tn σ.1 (JB σ.1 i) i)) ((qr_at okA (w := 3) h1i (by decide)).trans r3) ?_
    refine lv_iload X.1 X.2.1 dL_minute_307 (lv_at hl 1 rfl) ?_
    refine lv_icmp_ne (tgt := 416) X.1 X.2.1 dL_minute_309 (by decide) (fun c_309 => absurd (h15.symm) c_309) (fun c_309 => ?_)
    refine lv_aload_n X.1 X.2.1 dL_minute_312 rfl (lv_at hl 14 rfl) ?_
    refine lv_iconst (v := 3) X.1 X.2.1 dL_minute_313 (by decide) ?_
    refine lv_iload X.1 X.2.1 dL_minute_314 (lv_at hl 12 rfl) ?_
    refine lv_iconst (v := 5) X.1 X.2.1 dL_minute_316 (by decide) ?_
    refine lv_iconst (v := 0) X.1 X.2.1 dL_minute_317 (by decide) ?_
    refine kGL (rest := []) (As := [.ref ho, .int 3, .int (nI i), .int 5, .int 0]) X hP hD hS hl.1 o153.len (q_room l hst G kk (by omega) o153 (nI i) (5 : Int32) 0 ) sl_L_138 ⟨Nat.le_of_ble_eq_true rfl, Nat.le_of_ble_eq_true rfl, rfl, rfl⟩ ⟨by show _ ≤ 60; omega, by show _ ≤ 360; omega⟩ rfl (Nat.le_of_ble_eq_true rfl) dL_minute_318 (fun w154 r154 H locs hΦ a154 hP hD hS => ?_)
    obtain ⟨o154, rfl⟩ := hΦ
    replace a154 := a154.trans a153
    refine top_eq (y := (Fn σ.1 (JB σ.1 i) i)) ((qr_at okA (w := 5) h1i (by decide)).trans r5) ?_
    refine lv_iload X.1 X.2.1 dL_minute_321 (lv_at hl 0 rfl) ?_
    refine lv_bipush (v := 100) X.1 X.2.1 dL_minute_323 (by decide) ?_
    suffices J338 : W p l e (rmG 9 188 60 360) s m args below meth c H locs ((((((((((((((0 + 1) + 1) + 1) + 1) + 1) + 1) + 1) + 1) + 1) + 1) + 1) + 1) + 1) + 1) ((((((((((((((0 + 6) + 6) + 6) + 6) + 6) + 6) + 6) + 6) + 6) + 6) + 6) + 6) + 6) + 6) Q (F0 m 338 ls []) by
      refine lv_icmp_le (tgt := 333) X.1 X.2.1 dL_minute_325 (by decide) (fun c_325 => ?_) (fun c_325 => ?_)
      · skip
        refine lv_iload X.1 X.2.1 dL_minute_333 (lv_at hl 0 rfl) ?_
        refine lv_icmp_ne (tgt := 416) X.1 X.2.1 dL_minute_335 (by decide) (fun c_335 => absurd ((by rw [if_pos c_325] at h16; exact h16.symm)) c_335) (fun c_335 => ?_)
        exact J338
      · skip
        refine lv_bipush (v := 100) X.1 X.2.1 dL_minute_328 (by decide) ?_
        refine lv_goto (tgt := 335) X.1 X.2.1 dL_minute_330 (by decide) ?_
        refine lv_icmp_ne (tgt := 416) X.1 X.2.1 dL_minute_335 (by decide) (fun c_335 => absurd ((by rw [if_neg c_325] at h16; exact h16.symm)) c_335) (fun c_335 => ?_)
        exact J338
    refine lv_aload_n X.1 X.2.1 dL_minute_338 rfl (lv_at hl 14 rfl) ?_
    refine lv_iconst (v := 3) X.1 X.2.1 dL_minute_339 (by decide) ?_
    refine lv_iload X.1 X.2.1 dL_minute_340 (lv_at hl 12 rfl) ?_
    refine lv_bipush (v := 7) X.1 X.2.1 dL_minute_342 (by decide) ?_
    refine lv_iconst (v := 0) X.1 X.2.1 dL_minute_344 (by decide) ?_
    refine kGL (rest := []) (As := [.ref ho, .int 3, .int (nI i), .int 7, .int 0]) X hP hD hS hl.1 o154.len (q_room l hst G kk (by omega) o154 (nI i) (7 : Int32) 0 ) sl_L_138 ⟨Nat.le_of_ble_eq_true rfl, Nat.le_of_ble_eq_true rfl, rfl, rfl⟩ ⟨by show _ ≤ 60; omega, by show _ ≤ 360; omega⟩ rfl (Nat.le_of_ble_eq_true rfl) dL_minute_345 (fun w155 r155 H locs hΦ a155 hP hD hS => ?_)
    obtain ⟨o155, rfl⟩ := hΦ
    replace a155 := a155.trans a154
    refine top_eq (y := (σ.1 (16 + 8 * i + 7) + 0)) (((qr_at okA (w := 7) h1i (by decide)).trans r7).trans (by rw [hd1]; rfl)) ?_
    refine lv_iload X.1 X.2.1 dL_minute_348 (lv_at hl 8 rfl) ?_
    refine lv_iload X.1 X.2.1 dL_minute_350 (lv_at hl 3 rfl) ?_
    refine lv_if_eq (tgt := 359) X.1 X.2.1 dL_minute_352 (by decide) (fun c_352 => ?_) (fun c_352 => absurd (by decide) c_352)
    refine lv_iconst (v := 0) X.1 X.2.1 dL_minute_359 (by decide) ?_
    refine lv_iadd X.1 X.2.1 dL_minute_360 ?_
    refine lv_icmp_ne (tgt := 416) X.1 X.2.1 dL_minute_361 (by decide) (fun c_361 => absurd (rfl) c_361) (fun c_361 => ?_)
    refine lv_aload_n X.1 X.2.1 dL_minute_364 rfl (lv_at hl 14 rfl) ?_
    refine lv_iconst (v := 2) X.1 X.2.1 dL_minute_365 (by decide) ?_
    refine lv_bipush (v := 8) X.1 X.2.1 dL_minute_366 (by decide) ?_
    refine lv_iconst (v := 0) X.1 X.2.1 dL_minute_368 (by decide) ?_
    refine lv_iconst (v := 0) X.1 X.2.1 dL_minute_369 (by decide) ?_
    refine kGL (rest := []) (As := [.ref ho, .int 2, .int 8, .int 0, .int 0]) X hP hD hS hl.1 o155.len (q_about l hst G kk (by omega) o155 (8 : Int32) 0 0 ) sl_L_138 ⟨Nat.le_of_ble_eq_true rfl, Nat.le_of_ble_eq_true rfl, rfl, rfl⟩ ⟨by show _ ≤ 60; omega, by show _ ≤ 360; omega⟩ rfl (Nat.le_of_ble_eq_true rfl) dL_minute_370 (fun w156 r156 H locs hΦ a156 hP hD hS => ?_)
    obtain ⟨o156, rfl⟩ := hΦ
    replace a156 := a156.trans a155
    refine top_eq (y := (σ.1 7 + (RUNF σ.1 1 7 - σ.1 7))) ((qa_8 σ1.1).trans (by rw [f1]; exact add_back (σ.1 7) (RUNF σ.1 1 7))) ?_
    refine lv_iload X.1 X.2.1 dL_minute_373 (lv_at hl 5 rfl) ?_
    refine lv_icmp_ne (tgt := 416) X.1 X.2.1 dL_minute_375 (by decide) (fun c_375 => absurd (rfl) c_375) (fun c_375 => ?_)
    refine lv_iload X.1 X.2.1 dL_minute_378 (lv_at hl 1 rfl) ?_
    refine lv_aload_n X.1 X.2.1 dL_minute_380 rfl (lv_at hl 14 rfl) ?_
    refine lv_iconst (v := 3) X.1 X.2.1 dL_minute_381 (by decide) ?_
    refine lv_iload X.1 X.2.1 dL_minute_382 (lv_at hl 12 rfl) ?_
    refine lv_iconst (v := 2) X.1 X.2.1 dL_minute_384 (by decide) ?_
    refine lv_iconst (v := 0) X.1 X.2.1 dL_minute_385 (by decide) ?_
    refine kGL (rest := [.int v15]) (As := [.ref ho, .int 3, .int (nI i), .int 2, .int 0]) X hP hD hS hl.1 o156.len (q_room l hst G kk (by omega) o156 (nI i) (2 : Int32) 0 ) sl_L_138 ⟨Nat.le_of_ble_eq_true rfl, Nat.le_of_ble_eq_true rfl, rfl, rfl⟩ ⟨by show _ ≤ 60; omega, by show _ ≤ 360; omega⟩ rfl (Nat.le_of_ble_eq_true rfl) dL_minute_386 (fun w157 r157 H locs hΦ a157 hP hD hS => ?_)
    obtain ⟨o157, rfl⟩ := hΦ
    replace a157 := a157.trans a156
    refine top_eq (y := (σ1.1 (16 + 8 * i + 2))) (qr_at okA (w := 2) h1i (by decide)) ?_
    have hw := p150
    rw [nI_cl (by omega)] at hw
    unfold WP at hw
    rw [← f1, r3, ← h15] at hw
    suffices J417 : W p l e (rmG 9 188 60 360) s m args below meth c H locs (((((((((((((((((0 + 1) + 1) + 1) + 1) + 1) + 1) + 1) + 1) + 1) + 1) + 1) + 1) + 1) + 1) + 1) + 1) + 1) (((((((((((((((((0 + 6) + 6) + 6) + 6) + 6) + 6) + 6) + 6) + 6) + 6) + 6) + 6) + 6) + 6) + 6) + 6) + 6) Q (F0 m 417 ls [.int 1]) by
      refine lv_icmp_lt (tgt := 406) X.1 X.2.1 dL_minute_389 (by decide) (fun c_389 => ?_) (fun c_389 => ?_)
      · skip
        refine lv_iload X.1 X.2.1 dL_minute_406 (lv_at hl 4 rfl) ?_
        refine lv_iconst (v := 1) X.1 X.2.1 dL_minute_408 (by decide) ?_
        refine lv_icmp_eq (tgt := 416) X.1 X.2.1 dL_minute_409 (by decide) (fun c_409 => absurd c_409 (hw.2 c_389)) (fun c_409 => ?_)
        refine lv_iconst (v := 1) X.1 X.2.1 dL_minute_412 (by decide) ?_
        refine lv_goto (tgt := 417) X.1 X.2.1 dL_minute_413 (by decide) ?_
        exact J417
      · skip
        refine lv_iload X.1 X.2.1 dL_minute_392 (lv_at hl 4 rfl) ?_
        refine lv_if_eq (tgt := 412) X.1 X.2.1 dL_minute_394 (by decide) (fun c_394 => ?_) (fun c_394 => ?_)
        · skip
          refine lv_iconst (v := 1) X.1 X.2.1 dL_minute_412 (by decide) ?_
          refine lv_goto (tgt := 417) X.1 X.2.1 dL_minute_413 (by decide) ?_
          exact J417
        · skip
          refine lv_iload X.1 X.2.1 dL_minute_397 (lv_at hl 4 rfl) ?_
          refine lv_iconst (v := 1) X.1 X.2.1 dL_minute_399 (by decide) ?_
          refine lv_icmp_ne (tgt := 416) X.1 X.2.1 dL_minute_400 (by decide) (fun c_400 => absurd ((hw.1 c_389).resolve_left c_394) c_400) (fun c_400 => ?_)
          refine lv_goto (tgt := 412) X.1 X.2.1 dL_minute_403 (by decide) ?_
          refine lv_iconst (v := 1) X.1 X.2.1 dL_minute_412 (by decide) ?_
          refine lv_goto (tgt := 417) X.1 X.2.1 dL_minute_413 (by decide) ?_
          exact J417
    refine lv_istore (lv' := [(17, .int 1), (16, .int v16), (15, .int v15), (14, .int 0), (13, .int 0), (12, .int r150), (11, .int ((σ.1 7) + (RUNF σ.1 1 7 - σ.1 7))), (10, .int (RUNF σ.1 1 5 - σ.1 5)), (9, .int (σ.1 (16 + 8 * i + 4))), (8, .int (σ.1 (16 + 8 * i + 7))), (7, .int (σ.1 (16 + 8 * i + 5))), (6, .int (σ.1 (16 + 8 * i + 3))), (5, .int 7), (4, .int (nI i)), (3, .int (nI (mF σ.1))), (0, .ref ho), (1, .ref hq), (2, .int (nI N))]) X.1 X.2.1 dL_minute_417 hl (by decide) rfl (fun ls hl => ?_)
    refine lv_iload X.1 X.2.1 dL_minute_419 (lv_at hl 0 rfl) ?_
    refine lv_if_eq (tgt := 486) X.1 X.2.1 dL_minute_421 (by decide) (fun c_421 => absurd c_421 (by decide)) (fun c_421 => ?_)
    refine lv_aload_n X.1 X.2.1 dL_minute_424 rfl (lv_at hl 15 rfl) ?_
    refine lv_bipush (v := 10) X.1 X.2.1 dL_minute_425 (by decide) ?_
    refine lv_iconst (v := 0) X.1 X.2.1 dL_minute_427 (by decide) ?_
    refine lv_iconst (v := 0) X.1 X.2.1 dL_minute_428 (by decide) ?_
    refine lv_iconst (v := 0) X.1 X.2.1 dL_minute_429 (by decide) ?_
    refine kGL (rest := []) (As := [.ref ho, .int 10, .int 0, .int 0, .int 0]) X hP hD hS hl.1 o157.len (q_undo l hst G kk (by omega) o157  0 0 0 (hc1)) sl_L_138 ⟨Nat.le_of_ble_eq_true rfl, Nat.le_of_ble_eq_true rfl, rfl, rfl⟩ ⟨by show _ ≤ 60; omega, by show _ ≤ 360; omega⟩ rfl (Nat.le_of_ble_eq_true rfl) dL_minute_430 (fun w158 r158 H locs hΦ a158 hP hD hS => ?_)
    obtain ⟨o158, rfl⟩ := hΦ
    replace a158 := a158.trans a157
    refine k_goI (k_runS (rest := []) (As := [.int (nI (σ1.2.1 - 1))]) X.1 X.2.1 X.2.2.1 X.2.2.2.1 X.2.2.2.2.1 X.2.2.2.2.2.1 hP hD hS X.2.2.2.2.2.2.1 X.2.2.2.2.2.2.2.1 hl.1 (c_L_thrown l G kk (nI (σ1.2.1 - 1))) sl_L_190 ⟨Nat.le_of_ble_eq_true rfl, Nat.le_of_ble_eq_true rfl, rfl, rfl⟩ [] rfl rfl ⟨by show _ ≤ 60; omega, by show _ ≤ 360; omega⟩ rfl (Nat.le_of_ble_eq_true rfl) dL_minute_433) hP hD hS X.2.2.2.2.2.2.1 [] rfl rfl (fun H locs hP hD hS => ?_)
    replace hP : va_P G vwCl (w158 ++ w152) H := hP
    replace hD : va_D A (w158 ++ w152) := hD
    refine top_eq (y := 0) (thrown_n (by omega)) ?_
    refine lv_if_ne (tgt := 486) X.1 X.2.1 dL_minute_436 (by decide) (fun c_436 => absurd (by decide) c_436) (fun c_436 => ?_)
    refine lv_aload_n X.1 X.2.1 dL_minute_439 rfl (lv_at hl 16 rfl) ?_
    refine lv_bipush (v := 10) X.1 X.2.1 dL_minute_440 (by decide) ?_
    refine lv_iconst (v := 0) X.1 X.2.1 dL_minute_442 (by decide) ?_
    refine lv_iconst (v := 0) X.1 X.2.1 dL_minute_443 (by decide) ?_
    refine lv_iconst (v := 0) X.1 X.2.1 dL_minute_444 (by decide) ?_
    refine kGR (rest := []) (As := [.ref hq, .int 10, .int 0, .int 0, .int 0]) X hP hD hS hl.1 o152.len o158.len (q_undo l hst G kk (by omega) o152  0 0 0 (hc1)) sl_L_138 ⟨Nat.le_of_ble_eq_true rfl, Nat.le_of_ble_eq_true rfl, rfl, rfl⟩ ⟨by show _ ≤ 60; omega, by show _ ≤ 360; omega⟩ rfl (Nat.le_of_ble_eq_true rfl) dL_minute_445 (fun w159 r159 H locs hΦ a159 hP hD hS => ?_)
    obtain ⟨o159, rfl⟩ := hΦ
    replace a159 := a159.trans a152
    refine k_goI (k_runS (rest := []) (As := [.int (nI (σ1.2.1 - 1))]) X.1 X.2.1 X.2.2.1 X.2.2.2.1 X.2.2.2.2.1 X.2.2.2.2.2.1 hP hD hS X.2.2.2.2.2.2.1 X.2.2.2.2.2.2.2.1 hl.1 (c_L_thrown l G kk (nI (σ1.2.1 - 1))) sl_L_190 ⟨Nat.le_of_ble_eq_true rfl, Nat.le_of_ble_eq_true rfl, rfl, rfl⟩ [] rfl rfl ⟨by show _ ≤ 60; omega, by show _ ≤ 360; omega⟩ rfl (Nat.le_of_ble_eq_true rfl) dL_minute_448) hP hD hS X.2.2.2.2.2.2.1 [] rfl rfl (fun H locs hP hD hS => ?_)
    replace hP : va_P G vwCl (w158 ++ w159) H := hP
    replace hD : va_D A (w158 ++ w159) := hD
    refine top_eq (y := 0) (thrown_n (by omega)) ?_
    refine lv_if_ne (tgt := 486) X.1 X.2.1 dL_minute_451 (by decide) (fun c_451 => absurd (by decide) c_451) (fun c_451 => ?_)
    refine lv_aload_n X.1 X.2.1 dL_minute_454 rfl (lv_at hl 15 rfl) ?_
    refine lv_iconst (v := 3) X.1 X.2.1 dL_minute_455 (by decide) ?_
    refine lv_iload X.1 X.2.1 dL_minute_456 (lv_at hl 13 rfl) ?_
    refine lv_iconst (v := 3) X.1 X.2.1 dL_minute_458 (by decide) ?_
    refine lv_iconst (v := 0) X.1 X.2.1 dL_minute_459 (by decide) ?_
    refine kGL (rest := []) (As := [.ref ho, .int 3, .int (nI i), .int 3, .int 0]) X hP hD hS hl.1 o158.len (q_room l hst G kk (by omega) o158 (nI i) (3 : Int32) 0 ) sl_L_138 ⟨Nat.le_of_ble_eq_true rfl, Nat.le_of_ble_eq_true rfl, rfl, rfl⟩ ⟨by show _ ≤ 60; omega, by show _ ≤ 360; omega⟩ rfl (Nat.le_of_ble_eq_true rfl) dL_minute_460 (fun w160 r160 H locs hΦ a160 hP hD hS => ?_)
    obtain ⟨o160, rfl⟩ := hΦ
    replace a160 := a160.trans a158
    refine top_eq (y := (σ.1 (16 + 8 * i + 3))) ((by rw [f2]; exact qr_at ok (w := 3) hi (by decide))) ?_
    refine lv_iload X.1 X.2.1 dL_minute_463 (lv_at hl 11 rfl) ?_
    refine lv_icmp_ne (tgt := 486) X.1 X.2.1 dL_minute_465 (by decide) (fun c_465 => absurd (rfl) c_465) (fun c_465 => ?_)
    refine lv_aload_n X.1 X.2.1 dL_minute_468 rfl (lv_at hl 15 rfl) ?_
    refine lv_iconst (v := 4) X.1 X.2.1 dL_minute_469 (by decide) ?_
    refine lv_iload X.1 X.2.1 dL_minute_470 (lv_at hl 13 rfl) ?_
    refine lv_iconst (v := 0) X.1 X.2.1 dL_minute_472 (by decide) ?_
    refine lv_iconst (v := 0) X.1 X.2.1 dL_minute_473 (by decide) ?_
    refine kGL (rest := []) (As := [.ref ho, .int 4, .int (nI i), .int 0, .int 0]) X hP hD hS hl.1 o160.len (q_does l hst G kk (by omega) o160 (nI i) 0 0 ) sl_L_138 ⟨Nat.le_of_ble_eq_true rfl, Nat.le_of_ble_eq_true rfl, rfl, rfl⟩ ⟨by show _ ≤ 60; omega, by show _ ≤ 360; omega⟩ rfl (Nat.le_of_ble_eq_true rfl) dL_minute_474 (fun w161 r161 H locs hΦ a161 hP hD hS => ?_)
    obtain ⟨o161, rfl⟩ := hΦ
    replace a161 := a161.trans a160
    refine top_eq (y := 7) ((by rw [f2]; exact (qd_at ok hi).trans hd1)) ?_
    refine lv_iload X.1 X.2.1 dL_minute_477 (lv_at hl 12 rfl) ?_
    refine lv_icmp_ne (tgt := 486) X.1 X.2.1 dL_minute_479 (by decide) (fun c_479 => absurd (by decide) c_479) (fun c_479 => ?_)
    refine lv_iconst (v := 1) X.1 X.2.1 dL_minute_482 (by decide) ?_
    refine lv_goto (tgt := 487) X.1 X.2.1 dL_minute_483 (by decide) ?_
    refine W.widen (k := 60) (n := 360) (by omega) (by omega) ?_
    exact FIN _ 1 H locs ls 487 ⟨⟨_, _, rfl, o161, o159⟩, rfl⟩ (ads_app a161 a159) hP hD hS (fun _ => rfl) dL_minute_487
