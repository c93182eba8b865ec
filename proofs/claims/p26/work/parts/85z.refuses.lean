set_option maxRecDepth 100000 in
set_option maxHeartbeats 4000000 in
theorem c_refuses (l : Launch) (hst : l.stackTraces = false) (G : va_G) (kk : Nat → ClassId) {B : Nat} {σ : SG} {h : Nat} {ws : va_W} (hB : B ≤ 80000) (o0 : OB kk B σ h ws) (hm : 1 ≤ mF σ.1) {N : Nat} (hN : N < 100000) : CG l yL_refuses cL_refuses 4 (some .boolean) (rmG 9 192 40 240) [.ref h, .int (nI N)] G kk ws 40 240 (QG G kk ws (fun w1 r => OB kk B σ h w1 ∧ r = 1)) := by
  have ok := o0.row.1
  have hm6 := ok.1
  refine cg2_start (by decide +kernel) (Nat.le_of_ble_eq_true rfl) (Or.inr rfl) ?_
  intro p e s m args below meth c A ls Q X hP hD hS hl FIN
  have X : LM p l e (rmG 9 192 40 240) s m args below meth c cL_refuses 4 RL G kk A := X
  have hl : lv_has ls 4 [(0, .ref h), (1, .int (nI N))] := hl
  have a0 : ws.map (fun q => q.1) = ws.map (fun q => q.1) := rfl
  refine lv_aload_n X.1 X.2.1 dL_refuses_0 rfl (lv_at hl 0 rfl) ?_
  refine lv_iconst (v := 2) X.1 X.2.1 dL_refuses_1 (by decide) ?_
  refine lv_iconst (v := 0) X.1 X.2.1 dL_refuses_2 (by decide) ?_
  refine lv_iconst (v := 0) X.1 X.2.1 dL_refuses_3 (by decide) ?_
  refine lv_iconst (v := 0) X.1 X.2.1 dL_refuses_4 (by decide) ?_
  refine kG1 (rest := []) (As := [.ref h, .int 2, .int 0, .int 0, .int 0]) X hP hD hS hl.1 o0.len (q_about l hst G kk (by omega) o0 0 0 0 ) sl_L_138 ⟨Nat.le_of_ble_eq_true rfl, Nat.le_of_ble_eq_true rfl, rfl, rfl⟩ ⟨by show _ ≤ 40; omega, by show _ ≤ 240; omega⟩ rfl (Nat.le_of_ble_eq_true rfl) dL_refuses_5 (fun w1 r1 H locs hΦ a1 hP hD hS => ?_)
  obtain ⟨o1, rfl⟩ := hΦ
  replace a1 := a1.trans a0
  refine top_eq (y := (nI (mF σ.1))) (qa_0 ok) ?_
  refine lv_iload_n X.1 X.2.1 dL_refuses_8 rfl (lv_at hl 1 rfl) ?_
  refine lv_bipush (v := 50) X.1 X.2.1 dL_refuses_9 (by decide) ?_
  refine lv_irem X.1 X.2.1 dL_refuses_11 (by decide) ?_
  refine top_eq (y := (nI (N % 50))) (md (b := 50) rfl (by decide) (by omega)) ?_
  refine lv_iadd X.1 X.2.1 dL_refuses_12 ?_
  refine top_eq (y := (nI ((mF σ.1) + (N % 50)))) (nI_add (mF σ.1) (N % 50)) ?_
  refine lv_istore_n (lv' := [(2, .int (nI ((mF σ.1) + (N % 50)))), (0, .ref h), (1, .int (nI N))]) X.1 X.2.1 dL_refuses_13 rfl hl (by decide) rfl (fun ls hl => ?_)
  refine lv_iload_n X.1 X.2.1 dL_refuses_14 rfl (lv_at hl 2 rfl) ?_
  refine lv_sipush (v := 500) X.1 X.2.1 dL_refuses_15 (by decide) ?_
  refine lv_irem X.1 X.2.1 dL_refuses_18 (by decide) ?_
  refine top_eq (y := (nI (N % 500))) (md (b := 500) rfl (by decide) (by omega)) ?_
  refine lv_sipush (v := 300) X.1 X.2.1 dL_refuses_19 (by decide) ?_
  refine lv_isub X.1 X.2.1 dL_refuses_22 ?_
  refine lv_istore_n (lv' := [(3, .int ((nI (N % 500)) - 300)), (2, .int (nI ((mF σ.1) + (N % 50)))), (0, .ref h), (1, .int (nI N))]) X.1 X.2.1 dL_refuses_23 rfl hl (by decide) rfl (fun ls hl => ?_)
  refine lv_aload_n X.1 X.2.1 dL_refuses_24 rfl (lv_at hl 2 rfl) ?_
  refine lv_iconst (v := 0) X.1 X.2.1 dL_refuses_25 (by decide) ?_
  refine lv_iload_n X.1 X.2.1 dL_refuses_26 rfl (lv_at hl 3 rfl) ?_
  refine lv_iconst (v := 2) X.1 X.2.1 dL_refuses_27 (by decide) ?_
  refine lv_irem X.1 X.2.1 dL_refuses_28 (by decide) ?_
  refine top_eq (y := (nI (N % 2))) (md (b := 2) rfl (by decide) (by omega)) ?_
  suffices J : ∀ v : Int32, v < 0 ∨ 255 < v → W p l e (rmG 9 192 40 240) s m args below meth c H locs (0 + 1) (0 + 6) Q (F0 m 49 ls [.int v, .int 0, .ref h]) by
    refine lv_if_ne (tgt := 41) X.1 X.2.1 dL_refuses_29 (by decide) (fun c_29 => ?_) (fun c_29 => ?_)
    · skip
      refine lv_sipush (v := 256) X.1 X.2.1 dL_refuses_41 (by decide) ?_
      refine lv_iload_n X.1 X.2.1 dL_refuses_44 rfl (lv_at hl 3 rfl) ?_
      refine lv_bipush (v := 9) X.1 X.2.1 dL_refuses_45 (by decide) ?_
      refine lv_irem X.1 X.2.1 dL_refuses_47 (by decide) ?_
      refine top_eq (y := (nI (N % 9))) (md (b := 9) rfl (by decide) (by omega)) ?_
      refine lv_iadd X.1 X.2.1 dL_refuses_48 ?_
      refine top_eq (y := (nI (256 + (N % 9)))) (nI_add 256 (N % 9)) ?_
      exact J _ (rf_app1 N)
    · skip
      refine lv_iconst (v := (-1)) X.1 X.2.1 dL_refuses_32 (by decide) ?_
      refine lv_iload_n X.1 X.2.1 dL_refuses_33 rfl (lv_at hl 3 rfl) ?_
      refine lv_bipush (v := 9) X.1 X.2.1 dL_refuses_34 (by decide) ?_
      refine lv_irem X.1 X.2.1 dL_refuses_36 (by decide) ?_
      refine top_eq (y := (nI (N % 9))) (md (b := 9) rfl (by decide) (by omega)) ?_
      refine lv_isub X.1 X.2.1 dL_refuses_37 ?_
      refine lv_goto (tgt := 49) X.1 X.2.1 dL_refuses_38 (by decide) ?_
      exact J _ (rf_app0 N)
  intro v hv
  refine lv_iconst (v := 0) X.1 X.2.1 dL_refuses_49 (by decide) ?_
  refine lv_iconst (v := 0) X.1 X.2.1 dL_refuses_50 (by decide) ?_
  refine kG1 (rest := []) (As := [.ref h, .int 0, .int v, .int 0, .int 0]) X hP hD hS hl.1 o1.len (q_append_no l hst G kk (by omega) o1 v 0 0 (hv)) sl_L_138 ⟨Nat.le_of_ble_eq_true rfl, Nat.le_of_ble_eq_true rfl, rfl, rfl⟩ ⟨by show _ ≤ 40; omega, by show _ ≤ 240; omega⟩ rfl (Nat.le_of_ble_eq_true rfl) dL_refuses_51 (fun w2 r2 H locs hΦ a2 hP hD hS => ?_)
  obtain ⟨o2, rfl⟩ := hΦ
  replace a2 := a2.trans a1
  refine lv_ldc (v := (-9999002)) X.1 X.2.1 X.2.2.2.1 (X.2.2.2.2.1 _ kc_L_22) dL_refuses_54 ?_
  refine lv_icmp_ne (tgt := 585) X.1 X.2.1 dL_refuses_56 (by decide) (fun c_56 => absurd (by decide) c_56) (fun c_56 => ?_)
  refine lv_aload_n X.1 X.2.1 dL_refuses_59 rfl (lv_at hl 2 rfl) ?_
  refine lv_iconst (v := 2) X.1 X.2.1 dL_refuses_60 (by decide) ?_
  refine lv_bipush (v := 11) X.1 X.2.1 dL_refuses_61 (by decide) ?_
  refine lv_iload_n X.1 X.2.1 dL_refuses_63 rfl (lv_at hl 3 rfl) ?_
  refine lv_bipush (v := 50) X.1 X.2.1 dL_refuses_64 (by decide) ?_
  refine lv_irem X.1 X.2.1 dL_refuses_66 (by decide) ?_
  refine top_eq (y := (nI (N % 50))) (md (b := 50) rfl (by decide) (by omega)) ?_
  refine lv_iadd X.1 X.2.1 dL_refuses_67 ?_
  refine top_eq (y := (nI (11 + (N % 50)))) (nI_add 11 (N % 50)) ?_
  refine lv_iconst (v := 0) X.1 X.2.1 dL_refuses_68 (by decide) ?_
  refine lv_iconst (v := 0) X.1 X.2.1 dL_refuses_69 (by decide) ?_
  refine kG1 (rest := []) (As := [.ref h, .int 2, .int (nI (11 + (N % 50))), .int 0, .int 0]) X hP hD hS hl.1 o2.len (q_about l hst G kk (by omega) o2 (nI (11 + (N % 50))) 0 0 ) sl_L_138 ⟨Nat.le_of_ble_eq_true rfl, Nat.le_of_ble_eq_true rfl, rfl, rfl⟩ ⟨by show _ ≤ 40; omega, by show _ ≤ 240; omega⟩ rfl (Nat.le_of_ble_eq_true rfl) dL_refuses_70 (fun w3 r3 H locs hΦ a3 hP hD hS => ?_)
  obtain ⟨o3, rfl⟩ := hΦ
  replace a3 := a3.trans a2
  refine top_eq (y := (-9999002)) (qa_no _ (k := 11 + N % 50) (by omega) (by omega)) ?_
  refine lv_ldc (v := (-9999002)) X.1 X.2.1 X.2.2.2.1 (X.2.2.2.2.1 _ kc_L_22) dL_refuses_73 ?_
  refine lv_icmp_ne (tgt := 585) X.1 X.2.1 dL_refuses_75 (by decide) (fun c_75 => absurd (by decide) c_75) (fun c_75 => ?_)
  refine lv_aload_n X.1 X.2.1 dL_refuses_78 rfl (lv_at hl 2 rfl) ?_
  refine lv_iconst (v := 3) X.1 X.2.1 dL_refuses_79 (by decide) ?_
  refine lv_iload_n X.1 X.2.1 dL_refuses_80 rfl (lv_at hl 1 rfl) ?_
  refine lv_bipush (v := 9) X.1 X.2.1 dL_refuses_81 (by decide) ?_
  refine lv_iconst (v := 0) X.1 X.2.1 dL_refuses_83 (by decide) ?_
  refine kG1 (rest := []) (As := [.ref h, .int 3, .int (nI ((mF σ.1) + (N % 50))), .int 9, .int 0]) X hP hD hS hl.1 o3.len (q_room l hst G kk (by omega) o3 (nI ((mF σ.1) + (N % 50))) 9 0 ) sl_L_138 ⟨Nat.le_of_ble_eq_true rfl, Nat.le_of_ble_eq_true rfl, rfl, rfl⟩ ⟨by show _ ≤ 40; omega, by show _ ≤ 240; omega⟩ rfl (Nat.le_of_ble_eq_true rfl) dL_refuses_84 (fun w4 r4 H locs hΦ a4 hP hD hS => ?_)
  obtain ⟨o4, rfl⟩ := hΦ
  replace a4 := a4.trans a3
  refine top_eq (y := (-9999001)) (qr_no ok (k := mF σ.1 + N % 50) (by omega) (by omega) 9) ?_
  refine lv_ldc (v := (-9999001)) X.1 X.2.1 X.2.2.2.1 (X.2.2.2.2.1 _ kc_L_15) dL_refuses_87 ?_
  refine lv_icmp_ne (tgt := 585) X.1 X.2.1 dL_refuses_89 (by decide) (fun c_89 => absurd (by decide) c_89) (fun c_89 => ?_)
  refine lv_aload_n X.1 X.2.1 dL_refuses_92 rfl (lv_at hl 2 rfl) ?_
  refine lv_iconst (v := 3) X.1 X.2.1 dL_refuses_93 (by decide) ?_
  refine lv_iconst (v := 0) X.1 X.2.1 dL_refuses_94 (by decide) ?_
  refine lv_bipush (v := 8) X.1 X.2.1 dL_refuses_95 (by decide) ?_
  refine lv_iload_n X.1 X.2.1 dL_refuses_97 rfl (lv_at hl 3 rfl) ?_
  refine lv_bipush (v := 9) X.1 X.2.1 dL_refuses_98 (by decide) ?_
  refine lv_irem X.1 X.2.1 dL_refuses_100 (by decide) ?_
  refine top_eq (y := (nI (N % 9))) (md (b := 9) rfl (by decide) (by omega)) ?_
  refine lv_iadd X.1 X.2.1 dL_refuses_101 ?_
  refine top_eq (y := (nI (8 + (N % 9)))) (nI_add 8 (N % 9)) ?_
  refine lv_iconst (v := 0) X.1 X.2.1 dL_refuses_102 (by decide) ?_
  refine kG1 (rest := []) (As := [.ref h, .int 3, .int 0, .int (nI (8 + (N % 9))), .int 0]) X hP hD hS hl.1 o4.len (q_room l hst G kk (by omega) o4 0 (nI (8 + (N % 9))) 0 ) sl_L_138 ⟨Nat.le_of_ble_eq_true rfl, Nat.le_of_ble_eq_true rfl, rfl, rfl⟩ ⟨by show _ ≤ 40; omega, by show _ ≤ 240; omega⟩ rfl (Nat.le_of_ble_eq_true rfl) dL_refuses_103 (fun w5 r5 H locs hΦ a5 hP hD hS => ?_)
  obtain ⟨o5, rfl⟩ := hΦ
  replace a5 := a5.trans a4
  refine top_eq (y := (-9999002)) (qr_no2 ok hm (k := 8 + N % 9) (by omega) (by omega)) ?_
  refine lv_ldc (v := (-9999002)) X.1 X.2.1 X.2.2.2.1 (X.2.2.2.2.1 _ kc_L_22) dL_refuses_106 ?_
  refine lv_icmp_ne (tgt := 585) X.1 X.2.1 dL_refuses_108 (by decide) (fun c_108 => absurd (by decide) c_108) (fun c_108 => ?_)
  refine lv_aload_n X.1 X.2.1 dL_refuses_111 rfl (lv_at hl 2 rfl) ?_
  refine lv_iconst (v := 4) X.1 X.2.1 dL_refuses_112 (by decide) ?_
  refine lv_iload_n X.1 X.2.1 dL_refuses_113 rfl (lv_at hl 1 rfl) ?_
  refine lv_iconst (v := 0) X.1 X.2.1 dL_refuses_114 (by decide) ?_
  refine lv_iconst (v := 0) X.1 X.2.1 dL_refuses_115 (by decide) ?_
  refine kG1 (rest := []) (As := [.ref h, .int 4, .int (nI ((mF σ.1) + (N % 50))), .int 0, .int 0]) X hP hD hS hl.1 o5.len (q_does l hst G kk (by omega) o5 (nI ((mF σ.1) + (N % 50))) 0 0 ) sl_L_138 ⟨Nat.le_of_ble_eq_true rfl, Nat.le_of_ble_eq_true rfl, rfl, rfl⟩ ⟨by show _ ≤ 40; omega, by show _ ≤ 240; omega⟩ rfl (Nat.le_of_ble_eq_true rfl) dL_refuses_116 (fun w6 r6 H locs hΦ a6 hP hD hS => ?_)
  obtain ⟨o6, rfl⟩ := hΦ
  replace a6 := a6.trans a5
  refine top_eq (y := (-9999001)) (qd_no ok (k := mF σ.1 + N % 50) (by omega) (by omega)) ?_
  refine lv_ldc (v := (-9999001)) X.1 X.2.1 X.2.2.2.1 (X.2.2.2.2.1 _ kc_L_15) dL_refuses_119 ?_
  refine lv_icmp_ne (tgt := 585) X.1 X.2.1 dL_refuses_121 (by decide) (fun c_121 => absurd (by decide) c_121) (fun c_121 => ?_)
  refine lv_aload_n X.1 X.2.1 dL_refuses_124 rfl (lv_at hl 2 rfl) ?_
  refine lv_iconst (v := 5) X.1 X.2.1 dL_refuses_125 (by decide) ?_
  refine lv_bipush (v := 6) X.1 X.2.1 dL_refuses_126 (by decide) ?_
  refine lv_iload_n X.1 X.2.1 dL_refuses_128 rfl (lv_at hl 3 rfl) ?_
  refine lv_bipush (v := 9) X.1 X.2.1 dL_refuses_129 (by decide) ?_
  refine lv_irem X.1 X.2.1 dL_refuses_131 (by decide) ?_
  refine top_eq (y := (nI (N % 9))) (md (b := 9) rfl (by decide) (by omega)) ?_
  refine lv_iadd X.1 X.2.1 dL_refuses_132 ?_
  refine top_eq (y := (nI (6 + (N % 9)))) (nI_add 6 (N % 9)) ?_
  refine lv_iconst (v := 0) X.1 X.2.1 dL_refuses_133 (by decide) ?_
  refine lv_iconst (v := 0) X.1 X.2.1 dL_refuses_134 (by decide) ?_
  refine kG1 (rest := []) (As := [.ref h, .int 5, .int (nI (6 + (N % 9))), .int 0, .int 0]) X hP hD hS hl.1 o6.len (q_setting l hst G kk (by omega) o6 (nI (6 + (N % 9))) 0 0 ) sl_L_138 ⟨Nat.le_of_ble_eq_true rfl, Nat.le_of_ble_eq_true rfl, rfl, rfl⟩ ⟨by show _ ≤ 40; omega, by show _ ≤ 240; omega⟩ rfl (Nat.le_of_ble_eq_true rfl) dL_refuses_135 (fun w7 r7 H locs hΦ a7 hP hD hS => ?_)
  obtain ⟨o7, rfl⟩ := hΦ
  replace a7 := a7.trans a6
  refine top_eq (y := (-9999002)) (qs_no _ (k := 6 + N % 9) (by omega) (by omega)) ?_
  refine lv_ldc (v := (-9999002)) X.1 X.2.1 X.2.2.2.1 (X.2.2.2.2.1 _ kc_L_22) dL_refuses_138 ?_
  refine lv_icmp_ne (tgt := 585) X.1 X.2.1 dL_refuses_140 (by decide) (fun c_140 => absurd (by decide) c_140) (fun c_140 => ?_)
  refine lv_aload_n X.1 X.2.1 dL_refuses_143 rfl (lv_at hl 2 rfl) ?_
  refine lv_bipush (v := 6) X.1 X.2.1 dL_refuses_144 (by decide) ?_
  refine lv_iload_n X.1 X.2.1 dL_refuses_146 rfl (lv_at hl 3 rfl) ?_
  refine lv_iconst (v := 2) X.1 X.2.1 dL_refuses_147 (by decide) ?_
  refine lv_irem X.1 X.2.1 dL_refuses_148 (by decide) ?_
  refine top_eq (y := (nI (N % 2))) (md (b := 2) rfl (by decide) (by omega)) ?_
  suffices J : ∀ v : Int32, sX8_isNew v 0 100 = 0 → W p l e (rmG 9 192 40 240) s m args below meth c H locs (((((((0 + 1) + 1) + 1) + 1) + 1) + 1) + 1) (((((((0 + 6) + 6) + 6) + 6) + 6) + 6) + 6) Q (F0 m 163 ls [.int v, .int 6, .ref h]) by
    refine lv_if_ne (tgt := 156) X.1 X.2.1 dL_refuses_149 (by decide) (fun c_149 => ?_) (fun c_149 => ?_)
    · skip
      refine lv_bipush (v := 51) X.1 X.2.1 dL_refuses_156 (by decide) ?_
      refine lv_iload_n X.1 X.2.1 dL_refuses_158 rfl (lv_at hl 3 rfl) ?_
      refine lv_bipush (v := 9) X.1 X.2.1 dL_refuses_159 (by decide) ?_
      refine lv_irem X.1 X.2.1 dL_refuses_161 (by decide) ?_
      refine top_eq (y := (nI (N % 9))) (md (b := 9) rfl (by decide) (by omega)) ?_
      refine lv_iadd X.1 X.2.1 dL_refuses_162 ?_
      refine top_eq (y := (nI (51 + (N % 9)))) (nI_add 51 (N % 9)) ?_
      exact J _ (rf_add (51 + N % 9) (by omega) (by omega) 0 100)
    · skip
      refine lv_iconst (v := 0) X.1 X.2.1 dL_refuses_152 (by decide) ?_
      refine lv_goto (tgt := 163) X.1 X.2.1 dL_refuses_153 (by decide) ?_
      exact J _ (rf_add 0 (by omega) (by omega) 0 100)
  intro v hv
  refine lv_iconst (v := 0) X.1 X.2.1 dL_refuses_163 (by decide) ?_
  refine lv_bipush (v := 100) X.1 X.2.1 dL_refuses_164 (by decide) ?_
  refine kG1 (rest := []) (As := [.ref h, .int 6, .int v, .int 0, .int 100]) X hP hD hS hl.1 o7.len (q_add_no l hst G kk (by omega) o7 v 0 100  (hv)) sl_L_138 ⟨Nat.le_of_ble_eq_true rfl, Nat.le_of_ble_eq_true rfl, rfl, rfl⟩ ⟨by show _ ≤ 40; omega, by show _ ≤ 240; omega⟩ rfl (Nat.le_of_ble_eq_true rfl) dL_refuses_166 (fun w8 r8 H locs hΦ a8 hP hD hS => ?_)
  obtain ⟨o8, rfl⟩ := hΦ
  replace a8 := a8.trans a7
  refine lv_ldc (v := (-9999002)) X.1 X.2.1 X.2.2.2.1 (X.2.2.2.2.1 _ kc_L_22) dL_refuses_169 ?_
  refine lv_icmp_ne (tgt := 585) X.1 X.2.1 dL_refuses_171 (by decide) (fun c_171 => absurd (by decide) c_171) (fun c_171 => ?_)
  refine lv_aload_n X.1 X.2.1 dL_refuses_174 rfl (lv_at hl 2 rfl) ?_
  refine lv_bipush (v := 6) X.1 X.2.1 dL_refuses_175 (by decide) ?_
  refine lv_iconst (v := 1) X.1 X.2.1 dL_refuses_177 (by decide) ?_
  refine lv_iload_n X.1 X.2.1 dL_refuses_178 rfl (lv_at hl 3 rfl) ?_
  refine lv_bipush (v := 50) X.1 X.2.1 dL_refuses_179 (by decide) ?_
  refine lv_irem X.1 X.2.1 dL_refuses_181 (by decide) ?_
  refine top_eq (y := (nI (N % 50))) (md (b := 50) rfl (by decide) (by omega)) ?_
  refine lv_iadd X.1 X.2.1 dL_refuses_182 ?_
  refine top_eq (y := (nI (1 + (N % 50)))) (nI_add 1 (N % 50)) ?_
  refine lv_iload_n X.1 X.2.1 dL_refuses_183 rfl (lv_at hl 0 rfl) ?_
  refine lv_iload_n X.1 X.2.1 dL_refuses_184 rfl (lv_at hl 0 rfl) ?_
  refine lv_iload_n X.1 X.2.1 dL_refuses_185 rfl (lv_at hl 3 rfl) ?_
  refine lv_bipush (v := 9) X.1 X.2.1 dL_refuses_186 (by decide) ?_
  refine lv_irem X.1 X.2.1 dL_refuses_188 (by decide) ?_
  refine top_eq (y := (nI (N % 9))) (md (b := 9) rfl (by decide) (by omega)) ?_
  refine lv_isub X.1 X.2.1 dL_refuses_189 ?_
  refine kG1 (rest := []) (As := [.ref h, .int 6, .int (nI (1 + (N % 50))), .int ((nI (N % 500)) - 300), .int (((nI (N % 500)) - 300) - (nI (N % 9)))]) X hP hD hS hl.1 o8.len (q_add_no l hst G kk (by omega) o8 (nI (1 + (N % 50))) ((nI (N % 500)) - 300) (((nI (N % 500)) - 300) - (nI (N % 9)))  (rf_add1 N _)) sl_L_138 ⟨Nat.le_of_ble_eq_true rfl, Nat.le_of_ble_eq_true rfl, rfl, rfl⟩ ⟨by show _ ≤ 40; omega, by show _ ≤ 240; omega⟩ rfl (Nat.le_of_ble_eq_true rfl) dL_refuses_190 (fun w9 r9 H locs hΦ a9 hP hD hS => ?_)
  obtain ⟨o9, rfl⟩ := hΦ
  replace a9 := a9.trans a8
  refine lv_ldc (v := (-9999002)) X.1 X.2.1 X.2.2.2.1 (X.2.2.2.2.1 _ kc_L_22) dL_refuses_193 ?_
  refine lv_icmp_ne (tgt := 585) X.1 X.2.1 dL_refuses_195 (by decide) (fun c_195 => absurd (by decide) c_195) (fun c_195 => ?_)
  refine lv_aload_n X.1 X.2.1 dL_refuses_198 rfl (lv_at hl 2 rfl) ?_
  refine lv_bipush (v := 6) X.1 X.2.1 dL_refuses_199 (by decide) ?_
  refine lv_iconst (v := 1) X.1 X.2.1 dL_refuses_201 (by decide) ?_
  refine lv_iload_n X.1 X.2.1 dL_refuses_202 rfl (lv_at hl 3 rfl) ?_
  refine lv_bipush (v := 50) X.1 X.2.1 dL_refuses_203 (by decide) ?_
  refine lv_irem X.1 X.2.1 dL_refuses_205 (by decide) ?_
  refine top_eq (y := (nI (N % 50))) (md (b := 50) rfl (by decide) (by omega)) ?_
  refine lv_iadd X.1 X.2.1 dL_refuses_206 ?_
  refine top_eq (y := (nI (1 + (N % 50)))) (nI_add 1 (N % 50)) ?_
  refine lv_iload_n X.1 X.2.1 dL_refuses_207 rfl (lv_at hl 0 rfl) ?_
  refine lv_sipush (v := 201) X.1 X.2.1 dL_refuses_208 (by decide) ?_
  refine lv_iload_n X.1 X.2.1 dL_refuses_211 rfl (lv_at hl 3 rfl) ?_
  refine lv_bipush (v := 9) X.1 X.2.1 dL_refuses_212 (by decide) ?_
  refine lv_irem X.1 X.2.1 dL_refuses_214 (by decide) ?_
  refine top_eq (y := (nI (N % 9))) (md (b := 9) rfl (by decide) (by omega)) ?_
  refine lv_iadd X.1 X.2.1 dL_refuses_215 ?_
  refine top_eq (y := (nI (201 + (N % 9)))) (nI_add 201 (N % 9)) ?_
  refine kG1 (rest := []) (As := [.ref h, .int 6, .int (nI (1 + (N % 50))), .int ((nI (N % 500)) - 300), .int (nI (201 + (N % 9)))]) X hP hD hS hl.1 o9.len (q_add_no l hst G kk (by omega) o9 (nI (1 + (N % 50))) ((nI (N % 500)) - 300) (nI (201 + (N % 9)))  (rf_add2 N _ _)) sl_L_138 ⟨Nat.le_of_ble_eq_true rfl, Nat.le_of_ble_eq_true rfl, rfl, rfl⟩ ⟨by show _ ≤ 40; omega, by show _ ≤ 240; omega⟩ rfl (Nat.le_of_ble_eq_true rfl) dL_refuses_216 (fun w10 r10 H locs hΦ a10 hP hD hS => ?_)
  obtain ⟨o10, rfl⟩ := hΦ
  replace a10 := a10.trans a9
  refine lv_ldc (v := (-9999002)) X.1 X.2.1 X.2.2.2.1 (X.2.2.2.2.1 _ kc_L_22) dL_refuses_219 ?_
  refine lv_icmp_ne (tgt := 585) X.1 X.2.1 dL_refuses_221 (by decide) (fun c_221 => absurd (by decide) c_221) (fun c_221 => ?_)
  refine lv_aload_n X.1 X.2.1 dL_refuses_224 rfl (lv_at hl 2 rfl) ?_
  refine lv_bipush (v := 6) X.1 X.2.1 dL_refuses_225 (by decide) ?_
  refine lv_iconst (v := 1) X.1 X.2.1 dL_refuses_227 (by decide) ?_
  refine lv_sipush (v := (-301)) X.1 X.2.1 dL_refuses_228 (by decide) ?_
  refine lv_iload_n X.1 X.2.1 dL_refuses_231 rfl (lv_at hl 3 rfl) ?_
  refine lv_bipush (v := 9) X.1 X.2.1 dL_refuses_232 (by decide) ?_
  refine lv_irem X.1 X.2.1 dL_refuses_234 (by decide) ?_
  refine top_eq (y := (nI (N % 9))) (md (b := 9) rfl (by decide) (by omega)) ?_
  refine lv_isub X.1 X.2.1 dL_refuses_235 ?_
  refine lv_iconst (v := 0) X.1 X.2.1 dL_refuses_236 (by decide) ?_
  refine kG1 (rest := []) (As := [.ref h, .int 6, .int 1, .int ((-301) - (nI (N % 9))), .int 0]) X hP hD hS hl.1 o10.len (q_add_no l hst G kk (by omega) o10 1 ((-301) - (nI (N % 9))) 0  (rf_add3 N _ _)) sl_L_138 ⟨Nat.le_of_ble_eq_true rfl, Nat.le_of_ble_eq_true rfl, rfl, rfl⟩ ⟨by show _ ≤ 40; omega, by show _ ≤ 240; omega⟩ rfl (Nat.le_of_ble_eq_true rfl) dL_refuses_237 (fun w11 r11 H locs hΦ a11 hP hD hS => ?_)
  obtain ⟨o11, rfl⟩ := hΦ
  replace a11 := a11.trans a10
  refine lv_ldc (v := (-9999002)) X.1 X.2.1 X.2.2.2.1 (X.2.2.2.2.1 _ kc_L_22) dL_refuses_240 ?_
  refine lv_icmp_ne (tgt := 585) X.1 X.2.1 dL_refuses_242 (by decide) (fun c_242 => absurd (by decide) c_242) (fun c_242 => ?_)
  refine lv_aload_n X.1 X.2.1 dL_refuses_245 rfl (lv_at hl 2 rfl) ?_
  refine lv_iload_n X.1 X.2.1 dL_refuses_246 rfl (lv_at hl 1 rfl) ?_
  refine lv_iconst (v := 1) X.1 X.2.1 dL_refuses_247 (by decide) ?_
  refine kH1 (rest := []) (As := [.ref h, .int (nI ((mF σ.1) + (N % 50))), .int 1]) X hP hD hS hl.1 o11.len (a_door_no l hst G kk (by omega) o11 (nI ((mF σ.1) + (N % 50))) 1  (Or.inr rfl) (ir_no ok (by omega) (by omega))) sh_L_142 ⟨Nat.le_of_ble_eq_true rfl, Nat.le_of_ble_eq_true rfl, rfl, rfl⟩ ⟨by show _ ≤ 40; omega, by show _ ≤ 240; omega⟩ rfl (Nat.le_of_ble_eq_true rfl) dL_refuses_248 (fun w12 r12 H locs hΦ a12 hP hD hS => ?_)
  obtain ⟨o12, rfl⟩ := hΦ
  replace a12 := a12.trans a11
  refine lv_ldc (v := (-9999001)) X.1 X.2.1 X.2.2.2.1 (X.2.2.2.2.1 _ kc_L_15) dL_refuses_251 ?_
  refine lv_icmp_ne (tgt := 585) X.1 X.2.1 dL_refuses_253 (by decide) (fun c_253 => absurd (by decide) c_253) (fun c_253 => ?_)
  refine lv_aload_n X.1 X.2.1 dL_refuses_256 rfl (lv_at hl 2 rfl) ?_
  refine lv_bipush (v := 7) X.1 X.2.1 dL_refuses_257 (by decide) ?_
  refine lv_iload_n X.1 X.2.1 dL_refuses_259 rfl (lv_at hl 1 rfl) ?_
  refine lv_sipush (v := 999) X.1 X.2.1 dL_refuses_260 (by decide) ?_
  refine lv_iconst (v := 0) X.1 X.2.1 dL_refuses_263 (by decide) ?_
  refine kG1 (rest := []) (As := [.ref h, .int 7, .int (nI ((mF σ.1) + (N % 50))), .int 999, .int 0]) X hP hD hS hl.1 o12.len (q_goods_no l hst G kk (by omega) o12 (nI ((mF σ.1) + (N % 50))) 999 0 (ir_no ok (by omega) (by omega))) sl_L_138 ⟨Nat.le_of_ble_eq_true rfl, Nat.le_of_ble_eq_true rfl, rfl, rfl⟩ ⟨by show _ ≤ 40; omega, by show _ ≤ 240; omega⟩ rfl (Nat.le_of_ble_eq_true rfl) dL_refuses_264 (fun w13 r13 H locs hΦ a13 hP hD hS => ?_)
  obtain ⟨o13, rfl⟩ := hΦ
  replace a13 := a13.trans a12
  refine lv_ldc (v := (-9999001)) X.1 X.2.1 X.2.2.2.1 (X.2.2.2.2.1 _ kc_L_15) dL_refuses_267 ?_
  refine lv_icmp_ne (tgt := 585) X.1 X.2.1 dL_refuses_269 (by decide) (fun c_269 => absurd (by decide) c_269) (fun c_269 => ?_)
  refine lv_aload_n X.1 X.2.1 dL_refuses_272 rfl (lv_at hl 2 rfl) ?_
  refine lv_bipush (v := 7) X.1 X.2.1 dL_refuses_273 (by decide) ?_
  refine lv_iconst (v := 0) X.1 X.2.1 dL_refuses_275 (by decide) ?_
  refine lv_iload_n X.1 X.2.1 dL_refuses_276 rfl (lv_at hl 3 rfl) ?_
  refine lv_iconst (v := 2) X.1 X.2.1 dL_refuses_277 (by decide) ?_
  refine lv_irem X.1 X.2.1 dL_refuses_278 (by decide) ?_
  refine top_eq (y := (nI (N % 2))) (md (b := 2) rfl (by decide) (by omega)) ?_
  suffices J : ∀ v : Int32, sX8_in v.toInt64 (-400) 400 = 0 → W p l e (rmG 9 192 40 240) s m args below meth c H locs (((((((((((((0 + 1) + 1) + 1) + 1) + 1) + 1) + 1) + 1) + 1) + 1) + 1) + 1) + 1) (((((((((((((0 + 6) + 6) + 6) + 6) + 6) + 6) + 6) + 6) + 6) + 6) + 6) + 6) + 6) Q (F0 m 301 ls [.int v, .int 0, .int 7, .ref h]) by
    refine lv_if_ne (tgt := 293) X.1 X.2.1 dL_refuses_279 (by decide) (fun c_279 => ?_) (fun c_279 => ?_)
    · skip
      refine lv_sipush (v := 401) X.1 X.2.1 dL_refuses_293 (by decide) ?_
      refine lv_iload_n X.1 X.2.1 dL_refuses_296 rfl (lv_at hl 3 rfl) ?_
      refine lv_bipush (v := 9) X.1 X.2.1 dL_refuses_297 (by decide) ?_
      refine lv_irem X.1 X.2.1 dL_refuses_299 (by decide) ?_
      refine top_eq (y := (nI (N % 9))) (md (b := 9) rfl (by decide) (by omega)) ?_
      refine lv_iadd X.1 X.2.1 dL_refuses_300 ?_
      refine top_eq (y := (nI (401 + (N % 9)))) (nI_add 401 (N % 9)) ?_
      exact J _ (rf_goods1 N)
    · skip
      refine lv_sipush (v := (-401)) X.1 X.2.1 dL_refuses_282 (by decide) ?_
      refine lv_iload_n X.1 X.2.1 dL_refuses_285 rfl (lv_at hl 3 rfl) ?_
      refine lv_bipush (v := 9) X.1 X.2.1 dL_refuses_286 (by decide) ?_
      refine lv_irem X.1 X.2.1 dL_refuses_288 (by decide) ?_
      refine top_eq (y := (nI (N % 9))) (md (b := 9) rfl (by decide) (by omega)) ?_
      refine lv_isub X.1 X.2.1 dL_refuses_289 ?_
      refine lv_goto (tgt := 301) X.1 X.2.1 dL_refuses_290 (by decide) ?_
      exact J _ (rf_goods0 N)
  intro v hv
  refine lv_iconst (v := 0) X.1 X.2.1 dL_refuses_301 (by decide) ?_
  refine kG1 (rest := []) (As := [.ref h, .int 7, .int 0, .int v, .int 0]) X hP hD hS hl.1 o13.len (q_goods_no2 l hst G kk (by omega) o13 0 v 0 (ir_yes ok (k := 0) (by omega)) (hv)) sl_L_138 ⟨Nat.le_of_ble_eq_true rfl, Nat.le_of_ble_eq_true rfl, rfl, rfl⟩ ⟨by show _ ≤ 40; omega, by show _ ≤ 240; omega⟩ rfl (Nat.le_of_ble_eq_true rfl) dL_refuses_302 (fun w14 r14 H locs hΦ a14 hP hD hS => ?_)
  obtain ⟨o14, rfl⟩ := hΦ
  replace a14 := a14.trans a13
  refine lv_ldc (v := (-9999002)) X.1 X.2.1 X.2.2.2.1 (X.2.2.2.2.1 _ kc_L_22) dL_refuses_305 ?_
  refine lv_icmp_ne (tgt := 585) X.1 X.2.1 dL_refuses_307 (by decide) (fun c_307 => absurd (by decide) c_307) (fun c_307 => ?_)
  refine lv_aload_n X.1 X.2.1 dL_refuses_310 rfl (lv_at hl 2 rfl) ?_
  refine lv_bipush (v := 8) X.1 X.2.1 dL_refuses_311 (by decide) ?_
  refine lv_bipush (v := 61) X.1 X.2.1 dL_refuses_313 (by decide) ?_
  refine lv_iload_n X.1 X.2.1 dL_refuses_315 rfl (lv_at hl 3 rfl) ?_
  refine lv_bipush (v := 9) X.1 X.2.1 dL_refuses_316 (by decide) ?_
  refine lv_irem X.1 X.2.1 dL_refuses_318 (by decide) ?_
  refine top_eq (y := (nI (N % 9))) (md (b := 9) rfl (by decide) (by omega)) ?_
  refine lv_iadd X.1 X.2.1 dL_refuses_319 ?_
  refine top_eq (y := (nI (61 + (N % 9)))) (nI_add 61 (N % 9)) ?_
  refine lv_iconst (v := 0) X.1 X.2.1 dL_refuses_320 (by decide) ?_
  refine lv_iconst (v := 0) X.1 X.2.1 dL_refuses_321 (by decide) ?_
  refine kG1 (rest := []) (As := [.ref h, .int 8, .int (nI (61 + (N % 9))), .int 0, .int 0]) X hP hD hS hl.1 o14.len (q_run_no l hst G kk (by omega) o14 (nI (61 + (N % 9))) 0 0 (rf_run _ (by omega) (by omega))) sl_L_138 ⟨Nat.le_of_ble_eq_true rfl, Nat.le_of_ble_eq_true rfl, rfl, rfl⟩ ⟨by show _ ≤ 40; omega, by show _ ≤ 240; omega⟩ rfl (Nat.le_of_ble_eq_true rfl) dL_refuses_322 (fun w15 r15 H locs hΦ a15 hP hD hS => ?_)
  obtain ⟨o15, rfl⟩ := hΦ
  replace a15 := a15.trans a14
  refine lv_ldc (v := (-9999002)) X.1 X.2.1 X.2.2.2.1 (X.2.2.2.2.1 _ kc_L_22) dL_refuses_325 ?_
  refine lv_icmp_ne (tgt := 585) X.1 X.2.1 dL_refuses_327 (by decide) (fun c_327 => absurd (by decide) c_327) (fun c_327 => ?_)
  refine lv_aload_n X.1 X.2.1 dL_refuses_330 rfl (lv_at hl 2 rfl) ?_
  refine lv_bipush (v := 9) X.1 X.2.1 dL_refuses_331 (by decide) ?_
  refine lv_iload_n X.1 X.2.1 dL_refuses_333 rfl (lv_at hl 3 rfl) ?_
  refine lv_bipush (v := 6) X.1 X.2.1 dL_refuses_334 (by decide) ?_
  refine lv_irem X.1 X.2.1 dL_refuses_336 (by decide) ?_
  refine top_eq (y := (nI (N % 6))) (md (b := 6) rfl (by decide) (by omega)) ?_
  refine lv_sipush (v := 10000) X.1 X.2.1 dL_refuses_337 (by decide) ?_
  refine lv_iload_n X.1 X.2.1 dL_refuses_340 rfl (lv_at hl 3 rfl) ?_
  refine lv_bipush (v := 9) X.1 X.2.1 dL_refuses_341 (by decide) ?_
  refine lv_irem X.1 X.2.1 dL_refuses_343 (by decide) ?_
  refine top_eq (y := (nI (N % 9))) (md (b := 9) rfl (by decide) (by omega)) ?_
  refine lv_iadd X.1 X.2.1 dL_refuses_344 ?_
  refine top_eq (y := (nI (10000 + (N % 9)))) (nI_add 10000 (N % 9)) ?_
  refine lv_iconst (v := 0) X.1 X.2.1 dL_refuses_345 (by decide) ?_
  refine kG1 (rest := []) (As := [.ref h, .int 9, .int (nI (N % 6)), .int (nI (10000 + (N % 9))), .int 0]) X hP hD hS hl.1 o15.len (q_set_no l hst G kk (by omega) o15 (nI (N % 6)) (nI (10000 + (N % 9))) 0 (rf_set1 _ N)) sl_L_138 ⟨Nat.le_of_ble_eq_true rfl, Nat.le_of_ble_eq_true rfl, rfl, rfl⟩ ⟨by show _ ≤ 40; omega, by show _ ≤ 240; omega⟩ rfl (Nat.le_of_ble_eq_true rfl) dL_refuses_346 (fun w16 r16 H locs hΦ a16 hP hD hS => ?_)
  obtain ⟨o16, rfl⟩ := hΦ
  replace a16 := a16.trans a15
  refine lv_ldc (v := (-9999002)) X.1 X.2.1 X.2.2.2.1 (X.2.2.2.2.1 _ kc_L_22) dL_refuses_349 ?_
  refine lv_icmp_ne (tgt := 585) X.1 X.2.1 dL_refuses_351 (by decide) (fun c_351 => absurd (by decide) c_351) (fun c_351 => ?_)
  refine lv_aload_n X.1 X.2.1 dL_refuses_354 rfl (lv_at hl 2 rfl) ?_
  refine lv_bipush (v := 9) X.1 X.2.1 dL_refuses_355 (by decide) ?_
  refine lv_iload_n X.1 X.2.1 dL_refuses_357 rfl (lv_at hl 3 rfl) ?_
  refine lv_bipush (v := 6) X.1 X.2.1 dL_refuses_358 (by decide) ?_
  refine lv_irem X.1 X.2.1 dL_refuses_360 (by decide) ?_
  refine top_eq (y := (nI (N % 6))) (md (b := 6) rfl (by decide) (by omega)) ?_
  refine lv_iconst (v := (-1)) X.1 X.2.1 dL_refuses_361 (by decide) ?_
  refine lv_iload_n X.1 X.2.1 dL_refuses_362 rfl (lv_at hl 3 rfl) ?_
  refine lv_bipush (v := 9) X.1 X.2.1 dL_refuses_363 (by decide) ?_
  refine lv_irem X.1 X.2.1 dL_refuses_365 (by decide) ?_
  refine top_eq (y := (nI (N % 9))) (md (b := 9) rfl (by decide) (by omega)) ?_
  refine lv_isub X.1 X.2.1 dL_refuses_366 ?_
  refine lv_iconst (v := 0) X.1 X.2.1 dL_refuses_367 (by decide) ?_
  refine kG1 (rest := []) (As := [.ref h, .int 9, .int (nI (N % 6)), .int ((-1) - (nI (N % 9))), .int 0]) X hP hD hS hl.1 o16.len (q_set_no l hst G kk (by omega) o16 (nI (N % 6)) ((-1) - (nI (N % 9))) 0 (rf_set2 _ N)) sl_L_138 ⟨Nat.le_of_ble_eq_true rfl, Nat.le_of_ble_eq_true rfl, rfl, rfl⟩ ⟨by show _ ≤ 40; omega, by show _ ≤ 240; omega⟩ rfl (Nat.le_of_ble_eq_true rfl) dL_refuses_368 (fun w17 r17 H locs hΦ a17 hP hD hS => ?_)
  obtain ⟨o17, rfl⟩ := hΦ
  replace a17 := a17.trans a16
  refine lv_ldc (v := (-9999002)) X.1 X.2.1 X.2.2.2.1 (X.2.2.2.2.1 _ kc_L_22) dL_refuses_371 ?_
  refine lv_icmp_ne (tgt := 585) X.1 X.2.1 dL_refuses_373 (by decide) (fun c_373 => absurd (by decide) c_373) (fun c_373 => ?_)
  refine lv_aload_n X.1 X.2.1 dL_refuses_376 rfl (lv_at hl 2 rfl) ?_
  refine lv_bipush (v := 9) X.1 X.2.1 dL_refuses_377 (by decide) ?_
  refine lv_iconst (v := 3) X.1 X.2.1 dL_refuses_379 (by decide) ?_
  refine lv_iload_n X.1 X.2.1 dL_refuses_380 rfl (lv_at hl 3 rfl) ?_
  refine lv_iconst (v := 3) X.1 X.2.1 dL_refuses_381 (by decide) ?_
  refine lv_irem X.1 X.2.1 dL_refuses_382 (by decide) ?_
  refine top_eq (y := (nI (N % 3))) (md (b := 3) rfl (by decide) (by omega)) ?_
  refine lv_iadd X.1 X.2.1 dL_refuses_383 ?_
  refine top_eq (y := (nI (3 + (N % 3)))) (nI_add 3 (N % 3)) ?_
  refine lv_iconst (v := 0) X.1 X.2.1 dL_refuses_384 (by decide) ?_
  refine lv_iconst (v := 0) X.1 X.2.1 dL_refuses_385 (by decide) ?_
  refine kG1 (rest := []) (As := [.ref h, .int 9, .int (nI (3 + (N % 3))), .int 0, .int 0]) X hP hD hS hl.1 o17.len (q_set_no l hst G kk (by omega) o17 (nI (3 + (N % 3))) 0 0 (rf_set3 N)) sl_L_138 ⟨Nat.le_of_ble_eq_true rfl, Nat.le_of_ble_eq_true rfl, rfl, rfl⟩ ⟨by show _ ≤ 40; omega, by show _ ≤ 240; omega⟩ rfl (Nat.le_of_ble_eq_true rfl) dL_refuses_386 (fun w18 r18 H locs hΦ a18 hP hD hS => ?_)
  obtain ⟨o18, rfl⟩ := hΦ
  replace a18 := a18.trans a17
  refine lv_ldc (v := (-9999002)) X.1 X.2.1 X.2.2.2.1 (X.2.2.2.2.1 _ kc_L_22) dL_refuses_389 ?_
  refine lv_icmp_ne (tgt := 585) X.1 X.2.1 dL_refuses_391 (by decide) (fun c_391 => absurd (by decide) c_391) (fun c_391 => ?_)
  refine lv_aload_n X.1 X.2.1 dL_refuses_394 rfl (lv_at hl 2 rfl) ?_
  refine lv_bipush (v := 9) X.1 X.2.1 dL_refuses_395 (by decide) ?_
  refine lv_bipush (v := 6) X.1 X.2.1 dL_refuses_397 (by decide) ?_
  refine lv_iload_n X.1 X.2.1 dL_refuses_399 rfl (lv_at hl 3 rfl) ?_
  refine lv_bipush (v := 9) X.1 X.2.1 dL_refuses_400 (by decide) ?_
  refine lv_irem X.1 X.2.1 dL_refuses_402 (by decide) ?_
  refine top_eq (y := (nI (N % 9))) (md (b := 9) rfl (by decide) (by omega)) ?_
  refine lv_iadd X.1 X.2.1 dL_refuses_403 ?_
  refine top_eq (y := (nI (6 + (N % 9)))) (nI_add 6 (N % 9)) ?_
  refine lv_iconst (v := 5) X.1 X.2.1 dL_refuses_404 (by decide) ?_
  refine lv_iconst (v := 0) X.1 X.2.1 dL_refuses_405 (by decide) ?_
  refine kG1 (rest := []) (As := [.ref h, .int 9, .int (nI (6 + (N % 9))), .int 5, .int 0]) X hP hD hS hl.1 o18.len (q_set_no l hst G kk (by omega) o18 (nI (6 + (N % 9))) 5 0 (rf_set4 N 5)) sl_L_138 ⟨Nat.le_of_ble_eq_true rfl, Nat.le_of_ble_eq_true rfl, rfl, rfl⟩ ⟨by show _ ≤ 40; omega, by show _ ≤ 240; omega⟩ rfl (Nat.le_of_ble_eq_true rfl) dL_refuses_406 (fun w19 r19 H locs hΦ a19 hP hD hS => ?_)
  obtain ⟨o19, rfl⟩ := hΦ
  replace a19 := a19.trans a18
  refine lv_ldc (v := (-9999002)) X.1 X.2.1 X.2.2.2.1 (X.2.2.2.2.1 _ kc_L_22) dL_refuses_409 ?_
  refine lv_icmp_ne (tgt := 585) X.1 X.2.1 dL_refuses_411 (by decide) (fun c_411 => absurd (by decide) c_411) (fun c_411 => ?_)
  refine lv_aload_n X.1 X.2.1 dL_refuses_414 rfl (lv_at hl 2 rfl) ?_
  refine lv_bipush (v := 11) X.1 X.2.1 dL_refuses_415 (by decide) ?_
  refine lv_iload_n X.1 X.2.1 dL_refuses_417 rfl (lv_at hl 1 rfl) ?_
  refine lv_iconst (v := 0) X.1 X.2.1 dL_refuses_418 (by decide) ?_
  refine lv_iconst (v := 0) X.1 X.2.1 dL_refuses_419 (by decide) ?_
  refine kG1 (rest := []) (As := [.ref h, .int 11, .int (nI ((mF σ.1) + (N % 50))), .int 0, .int 0]) X hP hD hS hl.1 o19.len (q_warm_no l hst G kk (by omega) o19 (nI ((mF σ.1) + (N % 50))) 0 0 (ir_no ok (by omega) (by omega))) sl_L_138 ⟨Nat.le_of_ble_eq_true rfl, Nat.le_of_ble_eq_true rfl, rfl, rfl⟩ ⟨by show _ ≤ 40; omega, by show _ ≤ 240; omega⟩ rfl (Nat.le_of_ble_eq_true rfl) dL_refuses_420 (fun w20 r20 H locs hΦ a20 hP hD hS => ?_)
  obtain ⟨o20, rfl⟩ := hΦ
  replace a20 := a20.trans a19
  refine lv_ldc (v := (-9999001)) X.1 X.2.1 X.2.2.2.1 (X.2.2.2.2.1 _ kc_L_15) dL_refuses_423 ?_
  refine lv_icmp_ne (tgt := 585) X.1 X.2.1 dL_refuses_425 (by decide) (fun c_425 => absurd (by decide) c_425) (fun c_425 => ?_)
  refine lv_aload_n X.1 X.2.1 dL_refuses_428 rfl (lv_at hl 2 rfl) ?_
  refine lv_bipush (v := 12) X.1 X.2.1 dL_refuses_429 (by decide) ?_
  refine lv_sipush (v := 241) X.1 X.2.1 dL_refuses_431 (by decide) ?_
  refine lv_iload_n X.1 X.2.1 dL_refuses_434 rfl (lv_at hl 3 rfl) ?_
  refine lv_bipush (v := 9) X.1 X.2.1 dL_refuses_435 (by decide) ?_
  refine lv_irem X.1 X.2.1 dL_refuses_437 (by decide) ?_
  refine top_eq (y := (nI (N % 9))) (md (b := 9) rfl (by decide) (by omega)) ?_
  refine lv_iadd X.1 X.2.1 dL_refuses_438 ?_
  refine top_eq (y := (nI (241 + (N % 9)))) (nI_add 241 (N % 9)) ?_
  refine lv_iconst (v := 0) X.1 X.2.1 dL_refuses_439 (by decide) ?_
  refine lv_iconst (v := 0) X.1 X.2.1 dL_refuses_440 (by decide) ?_
  refine kG1 (rest := []) (As := [.ref h, .int 12, .int (nI (241 + (N % 9))), .int 0, .int 0]) X hP hD hS hl.1 o20.len (q_coming_no l hst G kk (by omega) o20 (nI (241 + (N % 9))) 0 0 (rf_com1 N 0)) sl_L_138 ⟨Nat.le_of_ble_eq_true rfl, Nat.le_of_ble_eq_true rfl, rfl, rfl⟩ ⟨by show _ ≤ 40; omega, by show _ ≤ 240; omega⟩ rfl (Nat.le_of_ble_eq_true rfl) dL_refuses_441 (fun w21 r21 H locs hΦ a21 hP hD hS => ?_)
  obtain ⟨o21, rfl⟩ := hΦ
  replace a21 := a21.trans a20
  refine lv_ldc (v := (-9999002)) X.1 X.2.1 X.2.2.2.1 (X.2.2.2.2.1 _ kc_L_22) dL_refuses_444 ?_
  refine lv_icmp_ne (tgt := 585) X.1 X.2.1 dL_refuses_446 (by decide) (fun c_446 => absurd (by decide) c_446) (fun c_446 => ?_)
  refine lv_aload_n X.1 X.2.1 dL_refuses_449 rfl (lv_at hl 2 rfl) ?_
  refine lv_bipush (v := 12) X.1 X.2.1 dL_refuses_450 (by decide) ?_
  refine lv_iconst (v := 1) X.1 X.2.1 dL_refuses_452 (by decide) ?_
  refine lv_iconst (v := 5) X.1 X.2.1 dL_refuses_453 (by decide) ?_
  refine lv_iload_n X.1 X.2.1 dL_refuses_454 rfl (lv_at hl 3 rfl) ?_
  refine lv_bipush (v := 9) X.1 X.2.1 dL_refuses_455 (by decide) ?_
  refine lv_irem X.1 X.2.1 dL_refuses_457 (by decide) ?_
  refine top_eq (y := (nI (N % 9))) (md (b := 9) rfl (by decide) (by omega)) ?_
  refine lv_iadd X.1 X.2.1 dL_refuses_458 ?_
  refine top_eq (y := (nI (5 + (N % 9)))) (nI_add 5 (N % 9)) ?_
  refine lv_iconst (v := 0) X.1 X.2.1 dL_refuses_459 (by decide) ?_
  refine kG1 (rest := []) (As := [.ref h, .int 12, .int 1, .int (nI (5 + (N % 9))), .int 0]) X hP hD hS hl.1 o21.len (q_coming_no l hst G kk (by omega) o21 1 (nI (5 + (N % 9))) 0 (rf_com2 N 1)) sl_L_138 ⟨Nat.le_of_ble_eq_true rfl, Nat.le_of_ble_eq_true rfl, rfl, rfl⟩ ⟨by show _ ≤ 40; omega, by show _ ≤ 240; omega⟩ rfl (Nat.le_of_ble_eq_true rfl) dL_refuses_460 (fun w22 r22 H locs hΦ a22 hP hD hS => ?_)
  obtain ⟨o22, rfl⟩ := hΦ
  replace a22 := a22.trans a21
  refine lv_ldc (v := (-9999002)) X.1 X.2.1 X.2.2.2.1 (X.2.2.2.2.1 _ kc_L_22) dL_refuses_463 ?_
  refine lv_icmp_ne (tgt := 585) X.1 X.2.1 dL_refuses_465 (by decide) (fun c_465 => absurd (by decide) c_465) (fun c_465 => ?_)
  refine lv_aload_n X.1 X.2.1 dL_refuses_468 rfl (lv_at hl 2 rfl) ?_
  refine lv_bipush (v := 13) X.1 X.2.1 dL_refuses_469 (by decide) ?_
  refine lv_iload_n X.1 X.2.1 dL_refuses_471 rfl (lv_at hl 3 rfl) ?_
  refine lv_iconst (v := 2) X.1 X.2.1 dL_refuses_472 (by decide) ?_
  refine lv_irem X.1 X.2.1 dL_refuses_473 (by decide) ?_
  refine top_eq (y := (nI (N % 2))) (md (b := 2) rfl (by decide) (by omega)) ?_
  suffices J : ∀ v : Int32, sX8_in v.toInt64 1 60 = 0 → W p l e (rmG 9 192 40 240) s m args below meth c H locs ((((((((((((((((((((((0 + 1) + 1) + 1) + 1) + 1) + 1) + 1) + 1) + 1) + 1) + 1) + 1) + 1) + 1) + 1) + 1) + 1) + 1) + 1) + 1) + 1) + 1) ((((((((((((((((((((((0 + 6) + 6) + 6) + 6) + 6) + 6) + 6) + 6) + 6) + 6) + 6) + 6) + 6) + 6) + 6) + 6) + 6) + 6) + 6) + 6) + 6) + 6) Q (F0 m 488 ls [.int v, .int 13, .ref h]) by
    refine lv_if_ne (tgt := 481) X.1 X.2.1 dL_refuses_474 (by decide) (fun c_474 => ?_) (fun c_474 => ?_)
    · skip
      refine lv_bipush (v := 61) X.1 X.2.1 dL_refuses_481 (by decide) ?_
      refine lv_iload_n X.1 X.2.1 dL_refuses_483 rfl (lv_at hl 3 rfl) ?_
      refine lv_bipush (v := 9) X.1 X.2.1 dL_refuses_484 (by decide) ?_
      refine lv_irem X.1 X.2.1 dL_refuses_486 (by decide) ?_
      refine top_eq (y := (nI (N % 9))) (md (b := 9) rfl (by decide) (by omega)) ?_
      refine lv_iadd X.1 X.2.1 dL_refuses_487 ?_
      refine top_eq (y := (nI (61 + (N % 9)))) (nI_add 61 (N % 9)) ?_
      exact J _ (rf_run (61 + N % 9) (by omega) (by omega))
    · skip
      refine lv_iconst (v := 0) X.1 X.2.1 dL_refuses_477 (by decide) ?_
      refine lv_goto (tgt := 488) X.1 X.2.1 dL_refuses_478 (by decide) ?_
      exact J _ (rf_run 0 (by omega) (by omega))
  intro v hv
  refine lv_iconst (v := 0) X.1 X.2.1 dL_refuses_488 (by decide) ?_
  refine lv_iconst (v := 0) X.1 X.2.1 dL_refuses_489 (by decide) ?_
  refine kG1 (rest := []) (As := [.ref h, .int 13, .int v, .int 0, .int 0]) X hP hD hS hl.1 o22.len (q_least_no l hst G kk (by omega) o22 v 0 0 (hv)) sl_L_138 ⟨Nat.le_of_ble_eq_true rfl, Nat.le_of_ble_eq_true rfl, rfl, rfl⟩ ⟨by show _ ≤ 40; omega, by show _ ≤ 240; omega⟩ rfl (Nat.le_of_ble_eq_true rfl) dL_refuses_490 (fun w23 r23 H locs hΦ a23 hP hD hS => ?_)
  obtain ⟨o23, rfl⟩ := hΦ
  replace a23 := a23.trans a22
  refine lv_ldc (v := (-9999002)) X.1 X.2.1 X.2.2.2.1 (X.2.2.2.2.1 _ kc_L_22) dL_refuses_493 ?_
  refine lv_icmp_ne (tgt := 585) X.1 X.2.1 dL_refuses_495 (by decide) (fun c_495 => absurd (by decide) c_495) (fun c_495 => ?_)
  refine lv_aload_n X.1 X.2.1 dL_refuses_498 rfl (lv_at hl 2 rfl) ?_
  refine lv_bipush (v := 14) X.1 X.2.1 dL_refuses_499 (by decide) ?_
  refine lv_iconst (v := 2) X.1 X.2.1 dL_refuses_501 (by decide) ?_
  refine lv_iload_n X.1 X.2.1 dL_refuses_502 rfl (lv_at hl 3 rfl) ?_
  refine lv_bipush (v := 50) X.1 X.2.1 dL_refuses_503 (by decide) ?_
  refine lv_irem X.1 X.2.1 dL_refuses_505 (by decide) ?_
  refine top_eq (y := (nI (N % 50))) (md (b := 50) rfl (by decide) (by omega)) ?_
  refine lv_iadd X.1 X.2.1 dL_refuses_506 ?_
  refine top_eq (y := (nI (2 + (N % 50)))) (nI_add 2 (N % 50)) ?_
  refine lv_iconst (v := 0) X.1 X.2.1 dL_refuses_507 (by decide) ?_
  refine lv_iconst (v := 0) X.1 X.2.1 dL_refuses_508 (by decide) ?_
  refine kG1 (rest := []) (As := [.ref h, .int 14, .int (nI (2 + (N % 50))), .int 0, .int 0]) X hP hD hS hl.1 o23.len (q_save_no l hst G kk (by omega) o23 (nI (2 + (N % 50))) 0 0 ((rf_save N).1) ((rf_save N).2)) sl_L_138 ⟨Nat.le_of_ble_eq_true rfl, Nat.le_of_ble_eq_true rfl, rfl, rfl⟩ ⟨by show _ ≤ 40; omega, by show _ ≤ 240; omega⟩ rfl (Nat.le_of_ble_eq_true rfl) dL_refuses_509 (fun w24 r24 H locs hΦ a24 hP hD hS => ?_)
  obtain ⟨o24, rfl⟩ := hΦ
  replace a24 := a24.trans a23
  refine lv_ldc (v := (-9999001)) X.1 X.2.1 X.2.2.2.1 (X.2.2.2.2.1 _ kc_L_15) dL_refuses_512 ?_
  refine lv_icmp_ne (tgt := 585) X.1 X.2.1 dL_refuses_514 (by decide) (fun c_514 => absurd (by decide) c_514) (fun c_514 => ?_)
  refine lv_aload_n X.1 X.2.1 dL_refuses_517 rfl (lv_at hl 2 rfl) ?_
  refine lv_bipush (v := 15) X.1 X.2.1 dL_refuses_518 (by decide) ?_
  refine lv_iconst (v := (-1)) X.1 X.2.1 dL_refuses_520 (by decide) ?_
  refine lv_iload_n X.1 X.2.1 dL_refuses_521 rfl (lv_at hl 3 rfl) ?_
  refine lv_bipush (v := 9) X.1 X.2.1 dL_refuses_522 (by decide) ?_
  refine lv_irem X.1 X.2.1 dL_refuses_524 (by decide) ?_
  refine top_eq (y := (nI (N % 9))) (md (b := 9) rfl (by decide) (by omega)) ?_
  refine lv_isub X.1 X.2.1 dL_refuses_525 ?_
  refine lv_iconst (v := 0) X.1 X.2.1 dL_refuses_526 (by decide) ?_
  refine lv_iconst (v := 0) X.1 X.2.1 dL_refuses_527 (by decide) ?_
  refine kG1 (rest := []) (As := [.ref h, .int 15, .int ((-1) - (nI (N % 9))), .int 0, .int 0]) X hP hD hS hl.1 o24.len (q_back_no l hst G kk (by omega) o24 ((-1) - (nI (N % 9))) 0 0 ((rf_back N).1) ((rf_back N).2)) sl_L_138 ⟨Nat.le_of_ble_eq_true rfl, Nat.le_of_ble_eq_true rfl, rfl, rfl⟩ ⟨by show _ ≤ 40; omega, by show _ ≤ 240; omega⟩ rfl (Nat.le_of_ble_eq_true rfl) dL_refuses_528 (fun w25 r25 H locs hΦ a25 hP hD hS => ?_)
  obtain ⟨o25, rfl⟩ := hΦ
  replace a25 := a25.trans a24
  refine lv_ldc (v := (-9999001)) X.1 X.2.1 X.2.2.2.1 (X.2.2.2.2.1 _ kc_L_15) dL_refuses_531 ?_
  refine lv_icmp_ne (tgt := 585) X.1 X.2.1 dL_refuses_533 (by decide) (fun c_533 => absurd (by decide) c_533) (fun c_533 => ?_)
  refine lv_aload_n X.1 X.2.1 dL_refuses_536 rfl (lv_at hl 2 rfl) ?_
  refine lv_iconst (v := 0) X.1 X.2.1 dL_refuses_537 (by decide) ?_
  refine lv_lconst (v := 0) X.1 X.2.1 dL_refuses_538 rfl ?_
  refine kH1 (rest := []) (As := [.ref h, .int 0, .long 0]) X hP hD hS hl.1 o25.len (a_script_0 l hst G kk (by omega) o25 0  ) sh_L_146 ⟨Nat.le_of_ble_eq_true rfl, Nat.le_of_ble_eq_true rfl, rfl, rfl⟩ ⟨by show _ ≤ 40; omega, by show _ ≤ 240; omega⟩ rfl (Nat.le_of_ble_eq_true rfl) dL_refuses_539 (fun w26 r26 H locs hΦ a26 hP hD hS => ?_)
  obtain ⟨o26, rfl⟩ := hΦ
  replace a26 := a26.trans a25
  refine lv_ldc (v := (-9999002)) X.1 X.2.1 X.2.2.2.1 (X.2.2.2.2.1 _ kc_L_22) dL_refuses_542 ?_
  refine lv_icmp_ne (tgt := 585) X.1 X.2.1 dL_refuses_544 (by decide) (fun c_544 => absurd (by decide) c_544) (fun c_544 => ?_)
  refine lv_aload_n X.1 X.2.1 dL_refuses_547 rfl (lv_at hl 2 rfl) ?_
  refine lv_iconst (v := 1) X.1 X.2.1 dL_refuses_548 (by decide) ?_
  refine lv_ldc2 (v := 100000) X.1 X.2.1 X.2.2.2.1 (X.2.2.2.2.1 _ kl_L_150) dL_refuses_549 ?_
  refine lv_iload_n X.1 X.2.1 dL_refuses_552 rfl (lv_at hl 3 rfl) ?_
  refine lv_i2l (v := (nI N).toInt64) X.1 X.2.1 dL_refuses_553 (by first | rfl | decide) ?_
  refine lv_ladd X.1 X.2.1 dL_refuses_554 ?_
  refine kH1 (rest := []) (As := [.ref h, .int 1, .long (100000 + ((nI N).toInt64))]) X hP hD hS hl.1 o26.len (a_script_1 l hst G kk (by omega) o26 (100000 + ((nI N).toInt64))  (rf_script hN) (by omega)) sh_L_146 ⟨Nat.le_of_ble_eq_true rfl, Nat.le_of_ble_eq_true rfl, rfl, rfl⟩ ⟨by show _ ≤ 40; omega, by show _ ≤ 240; omega⟩ rfl (Nat.le_of_ble_eq_true rfl) dL_refuses_555 (fun w27 r27 H locs hΦ a27 hP hD hS => ?_)
  obtain ⟨o27, rfl⟩ := hΦ
  replace a27 := a27.trans a26
  refine lv_ldc (v := (-9999002)) X.1 X.2.1 X.2.2.2.1 (X.2.2.2.2.1 _ kc_L_22) dL_refuses_558 ?_
  refine lv_icmp_ne (tgt := 585) X.1 X.2.1 dL_refuses_560 (by decide) (fun c_560 => absurd (by decide) c_560) (fun c_560 => ?_)
  refine lv_aload_n X.1 X.2.1 dL_refuses_563 rfl (lv_at hl 2 rfl) ?_
  refine lv_iload_n X.1 X.2.1 dL_refuses_564 rfl (lv_at hl 3 rfl) ?_
  refine lv_i2l (v := (nI N).toInt64) X.1 X.2.1 dL_refuses_565 (by first | rfl | decide) ?_
  refine lv_bipush (v := 61) X.1 X.2.1 dL_refuses_566 (by decide) ?_
  refine lv_iload_n X.1 X.2.1 dL_refuses_568 rfl (lv_at hl 3 rfl) ?_
  refine lv_bipush (v := 9) X.1 X.2.1 dL_refuses_569 (by decide) ?_
  refine lv_irem X.1 X.2.1 dL_refuses_571 (by decide) ?_
  refine top_eq (y := (nI (N % 9))) (md (b := 9) rfl (by decide) (by omega)) ?_
  refine lv_iadd X.1 X.2.1 dL_refuses_572 ?_
  refine top_eq (y := (nI (61 + (N % 9)))) (nI_add 61 (N % 9)) ?_
  refine kH1 (rest := []) (As := [.ref h, .long ((nI N).toInt64), .int (nI (61 + (N % 9)))]) X hP hD hS hl.1 o27.len (a_simulate l hst G kk (by omega) o27 ((nI N).toInt64) (nI (61 + (N % 9)))  ) sh_L_152 ⟨Nat.le_of_ble_eq_true rfl, Nat.le_of_ble_eq_true rfl, rfl, rfl⟩ ⟨by show _ ≤ 40; omega, by show _ ≤ 240; omega⟩ rfl (Nat.le_of_ble_eq_true rfl) dL_refuses_573 (fun w28 r28 H locs hΦ a28 hP hD hS => ?_)
  obtain ⟨o28, rfl⟩ := hΦ
  replace a28 := a28.trans a27
  refine top_eq (y := (-9999002)) (qsim_no _ _ (v := 61 + N % 9) (by omega) (by omega)) ?_
  refine lv_ldc (v := (-9999002)) X.1 X.2.1 X.2.2.2.1 (X.2.2.2.2.1 _ kc_L_22) dL_refuses_576 ?_
  refine lv_icmp_ne (tgt := 585) X.1 X.2.1 dL_refuses_578 (by decide) (fun c_578 => absurd (by decide) c_578) (fun c_578 => ?_)
  refine lv_iconst (v := 1) X.1 X.2.1 dL_refuses_581 (by decide) ?_
  refine lv_goto (tgt := 586) X.1 X.2.1 dL_refuses_582 (by decide) ?_
  refine W.widen (k := 40) (n := 240) (by omega) (by omega) ?_
  exact FIN _ 1 H locs ls 586 ⟨o28, rfl⟩ a28 hP hD hS (fun _ => rfl) dL_refuses_586
