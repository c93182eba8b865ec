set_option maxRecDepth 100000 in
set_option maxHeartbeats 8000000 in
theorem c_limit (l : Launch) (hst : l.stackTraces = false) (G : va_G) (kk : Nat → ClassId) {B : Nat} {σ : SG} {ho hq : Nat} {wa wb : va_W} (hB : B ≤ 80000) (oa : OB kk B σ ho wa) (ob : OB kk B σ hq wb) (hG : GOOD σ) {N : Nat} (hN1 : 1 ≤ N) (hN2 : N ≤ 60) : CG l yL_limit cL_limit 8 (some .boolean) (rmG 9 189 60 360) [.ref ho, .ref hq, .int (nI N)] G kk (wa ++ wb) 60 360 (QG G kk (wa ++ wb) (fun w r => (∃ σ1 : SG, GOOD σ1 ∧ OB2 kk (B + 120) σ1 ho hq w) ∧ r = 1)) := by
  have hN : 1 ≤ (nI N).toInt ∧ (nI N).toInt ≤ 60 := by rw [t_n (by omega)]; omega
  have eN : (nI N).toNatClampNeg = N := nI_cl (by omega)
  have ok := oa.row.1
  have hm6 := ok.1
  refine cg2_start (by decide +kernel) (Nat.le_of_ble_eq_true rfl) (Or.inr rfl) ?_
  intro p e s m args below meth c A ls Q X hP hD hS hl FIN
  have X : LM p l e (rmG 9 189 60 360) s m args below meth c cL_limit 8 RL G kk A := X
  have hl : lv_has ls 8 [(0, .ref ho), (1, .ref hq), (2, .int (nI N))] := hl
  have a0 : wa.map (fun q => q.1) = wa.map (fun q => q.1) := rfl
  have b0 : wb.map (fun q => q.1) = wb.map (fun q => q.1) := rfl
  refine lv_aload_n X.1 X.2.1 dL_limit_0 rfl (lv_at hl 0 rfl) ?_
  refine lv_bipush (v := 13) X.1 X.2.1 dL_limit_1 (by decide) ?_
  refine lv_iload_n X.1 X.2.1 dL_limit_3 rfl (lv_at hl 2 rfl) ?_
  refine lv_iconst (v := 0) X.1 X.2.1 dL_limit_4 (by decide) ?_
  refine lv_iconst (v := 0) X.1 X.2.1 dL_limit_5 (by decide) ?_
  refine kGL (rest := []) (As := [.ref ho, .int 13, .int (nI N), .int 0, .int 0]) X hP hD hS hl.1 oa.len (q_least l hst G kk (by omega) oa (nI N) 0 0 (hN)) sl_L_138 ⟨Nat.le_of_ble_eq_true rfl, Nat.le_of_ble_eq_true rfl, rfl, rfl⟩ ⟨by show _ ≤ 60; omega, by show _ ≤ 360; omega⟩ rfl (Nat.le_of_ble_eq_true rfl) dL_limit_6 (fun w1 r1 H locs hΦ a1 hP hD hS => ?_)
  obtain ⟨o1, p1⟩ := hΦ
  replace a1 := a1.trans a0
  refine lv_istore_n (lv' := [(3, .int r1), (0, .ref ho), (1, .ref hq), (2, .int (nI N))]) X.1 X.2.1 dL_limit_9 rfl hl (by decide) rfl (fun ls hl => ?_)
  refine lv_aload_n X.1 X.2.1 dL_limit_10 rfl (lv_at hl 1 rfl) ?_
  refine lv_iconst (v := 2) X.1 X.2.1 dL_limit_11 (by decide) ?_
  refine lv_iconst (v := 4) X.1 X.2.1 dL_limit_12 (by decide) ?_
  refine lv_iconst (v := 0) X.1 X.2.1 dL_limit_13 (by decide) ?_
  refine lv_iconst (v := 0) X.1 X.2.1 dL_limit_14 (by decide) ?_
  refine kGL (rest := []) (As := [.ref ho, .int 2, .int 4, .int 0, .int 0]) X hP hD hS hl.1 o1.len (q_about l hst G kk (by omega) o1 (4 : Int32) 0 0 ) sl_L_138 ⟨Nat.le_of_ble_eq_true rfl, Nat.le_of_ble_eq_true rfl, rfl, rfl⟩ ⟨by show _ ≤ 60; omega, by show _ ≤ 360; omega⟩ rfl (Nat.le_of_ble_eq_true rfl) dL_limit_15 (fun w2 r2 H locs hΦ a2 hP hD hS => ?_)
  obtain ⟨o2, rfl⟩ := hΦ
  replace a2 := a2.trans a1
  refine top_eq (y := (σ.1 3)) (qa_4 σ.1) ?_
  refine lv_istore (lv' := [(4, .int (σ.1 3)), (3, .int r1), (0, .ref ho), (1, .ref hq), (2, .int (nI N))]) X.1 X.2.1 dL_limit_18 hl (by decide) rfl (fun ls hl => ?_)
  refine lv_iconst (v := 1) X.1 X.2.1 dL_limit_20 (by decide) ?_
  refine lv_istore (lv' := [(5, .int 1), (4, .int (σ.1 3)), (3, .int r1), (0, .ref ho), (1, .ref hq), (2, .int (nI N))]) X.1 X.2.1 dL_limit_21 hl (by decide) rfl (fun ls hl => ?_)
  refine lv_iconst (v := 0) X.1 X.2.1 dL_limit_23 (by decide) ?_
  refine lv_istore (lv' := [(6, .int 0), (5, .int 1), (4, .int (σ.1 3)), (3, .int r1), (0, .ref ho), (1, .ref hq), (2, .int (nI N))]) X.1 X.2.1 dL_limit_24 hl (by decide) rfl (fun ls hl => ?_)
  rw [eN] at p1
  rcases p1 with ⟨e0, e1⟩ | ⟨k, k1, k2, k3, k4⟩
  · subst e0
    have e1 : ¬ RUNF (upd σ.1 10 (nI (100 * 99))) N 3 = σ.1 3 := e1 99 (by omega)
    refine lv_iload X.1 X.2.1 dL_limit_26 (lv_at hl 0 rfl) ?_
    refine lv_iconst (v := 2) X.1 X.2.1 dL_limit_28 (by decide) ?_
    refine lv_icmp_ge (tgt := 237) X.1 X.2.1 dL_limit_29 (by decide) (fun c_29 => absurd c_29 (by decide)) (fun c_29 => ?_)
    refine lv_iload X.1 X.2.1 dL_limit_32 (lv_at hl 1 rfl) ?_
    refine lv_if_eq (tgt := 237) X.1 X.2.1 dL_limit_34 (by decide) (fun c_34 => absurd c_34 (by decide)) (fun c_34 => ?_)
    refine lv_iload_n X.1 X.2.1 dL_limit_37 rfl (lv_at hl 3 rfl) ?_
    refine lv_iconst (v := (-1)) X.1 X.2.1 dL_limit_38 (by decide) ?_
    refine lv_icmp_ne (tgt := 48) X.1 X.2.1 dL_limit_39 (by decide) (fun c_39 => absurd (by decide) c_39) (fun c_39 => ?_)
    refine lv_sipush (v := 9900) X.1 X.2.1 dL_limit_42 (by decide) ?_
    refine top_eq (y := (nI (100 * 99))) (by decide) ?_
    refine lv_goto (tgt := 55) X.1 X.2.1 dL_limit_45 (by decide) ?_
    refine lv_istore (lv' := [(7, .int (nI (100 * 99))), (6, .int 0), (5, .int 1), (4, .int (σ.1 3)), (3, .int (-1)), (0, .ref ho), (1, .ref hq), (2, .int (nI N))]) X.1 X.2.1 dL_limit_55 hl (by decide) rfl (fun ls hl => ?_)
    refine lv_iload X.1 X.2.1 dL_limit_57 (lv_at hl 0 rfl) ?_
    refine lv_if_lt (tgt := 231) X.1 X.2.1 dL_limit_59 (by decide) (fun c_59 => absurd c_59 (nn_n (by omega))) (fun c_59 => ?_)
    obtain ⟨σA0, σB0, σC0, σD0, hA, hB0, hC0, hD0, f3, hcB, hcC, fD, gD⟩ := try_facts (σ := σ) (99) N hG (by rw [(rfl : σ.1 = σ.1)]; exact hm6)
    obtain ⟨hcB, hcB4⟩ := hcB
    obtain ⟨hcC, hcC4⟩ := hcC
    have t10 : 0 ≤ (σ.1 10).toInt := by rw [(rfl : σ.1 = σ.1)]; exact ok.2.2.1.1
    replace f3 : σB0.1 3 = RUNF (upd σ.1 10 (nI (100 * 99))) N 3 := by rw [f3, (rfl : σ.1 = σ.1)]
    replace fD : σD0.1 = σ.1 := by rw [fD, (rfl : σ.1 = σ.1)]
    have gN : 99 ≤ 99 := by omega
    refine lv_aload_n X.1 X.2.1 dL_limit_62 rfl (lv_at hl 5 rfl) ?_
    refine lv_bipush (v := 9) X.1 X.2.1 dL_limit_63 (by decide) ?_
    refine lv_iconst (v := 0) X.1 X.2.1 dL_limit_65 (by decide) ?_
    refine lv_iload X.1 X.2.1 dL_limit_66 (lv_at hl 0 rfl) ?_
    refine lv_iconst (v := 0) X.1 X.2.1 dL_limit_68 (by decide) ?_
    refine kGL (rest := []) (As := [.ref ho, .int 9, .int 0, .int (nI (100 * 99)), .int 0]) X hP hD hS hl.1 o2.len (q_set l hst G kk (by omega) o2 (0 : Int32) (nI (100 * 99)) 0 (set_lim (by omega))) sl_L_138 ⟨Nat.le_of_ble_eq_true rfl, Nat.le_of_ble_eq_true rfl, rfl, rfl⟩ ⟨by show _ ≤ 60; omega, by show _ ≤ 360; omega⟩ rfl (Nat.le_of_ble_eq_true rfl) dL_limit_69 (fun w3 r3 H locs hΦ a3 hP hD hS => ?_)
    obtain ⟨o3, rfl⟩ := hΦ
    replace a3 := a3.trans a2
    replace o3 : OB kk (B) σA0 ho w3 := by rw [hA]; exact o3
    refine top_eq (y := (σ.1 10)) (rfl) ?_
    refine k_goI (k_runS (rest := []) (As := [.int (σ.1 10)]) X.1 X.2.1 X.2.2.1 X.2.2.2.1 X.2.2.2.2.1 X.2.2.2.2.2.1 hP hD hS X.2.2.2.2.2.2.1 X.2.2.2.2.2.2.2.1 hl.1 (c_L_thrown l G kk (σ.1 10)) sl_L_190 ⟨Nat.le_of_ble_eq_true rfl, Nat.le_of_ble_eq_true rfl, rfl, rfl⟩ [] rfl rfl ⟨by show _ ≤ 60; omega, by show _ ≤ 360; omega⟩ rfl (Nat.le_of_ble_eq_true rfl) dL_limit_72) hP hD hS X.2.2.2.2.2.2.1 [] rfl rfl (fun H locs hP hD hS => ?_)
    replace hP : va_P G vwCl (w3 ++ wb) H := hP
    replace hD : va_D A (w3 ++ wb) := hD
    refine top_eq (y := 0) (thrown_r t10) ?_
    refine lv_if_ne (tgt := 228) X.1 X.2.1 dL_limit_75 (by decide) (fun c_75 => absurd (by decide) c_75) (fun c_75 => ?_)
    refine lv_aload_n X.1 X.2.1 dL_limit_78 rfl (lv_at hl 6 rfl) ?_
    refine lv_bipush (v := 9) X.1 X.2.1 dL_limit_79 (by decide) ?_
    refine lv_iconst (v := 0) X.1 X.2.1 dL_limit_81 (by decide) ?_
    refine lv_iload X.1 X.2.1 dL_limit_82 (lv_at hl 0 rfl) ?_
    refine lv_iconst (v := 0) X.1 X.2.1 dL_limit_84 (by decide) ?_
    refine kGR (rest := []) (As := [.ref hq, .int 9, .int 0, .int (nI (100 * 99)), .int 0]) X hP hD hS hl.1 ob.len o3.len (q_set l hst G kk (by omega) ob (0 : Int32) (nI (100 * 99)) 0 (set_lim (by omega))) sl_L_138 ⟨Nat.le_of_ble_eq_true rfl, Nat.le_of_ble_eq_true rfl, rfl, rfl⟩ ⟨by show _ ≤ 60; omega, by show _ ≤ 360; omega⟩ rfl (Nat.le_of_ble_eq_true rfl) dL_limit_85 (fun w4 r4 H locs hΦ a4 hP hD hS => ?_)
    obtain ⟨o4, rfl⟩ := hΦ
    replace a4 := a4.trans b0
    replace o4 : OB kk (B) σA0 hq w4 := by rw [hA]; exact o4
    refine top_eq (y := (σ.1 10)) (rfl) ?_
    refine k_goI (k_runS (rest := []) (As := [.int (σ.1 10)]) X.1 X.2.1 X.2.2.1 X.2.2.2.1 X.2.2.2.2.1 X.2.2.2.2.2.1 hP hD hS X.2.2.2.2.2.2.1 X.2.2.2.2.2.2.2.1 hl.1 (c_L_thrown l G kk (σ.1 10)) sl_L_190 ⟨Nat.le_of_ble_eq_true rfl, Nat.le_of_ble_eq_true rfl, rfl, rfl⟩ [] rfl rfl ⟨by show _ ≤ 60; omega, by show _ ≤ 360; omega⟩ rfl (Nat.le_of_ble_eq_true rfl) dL_limit_88) hP hD hS X.2.2.2.2.2.2.1 [] rfl rfl (fun H locs hP hD hS => ?_)
    replace hP : va_P G vwCl (w3 ++ w4) H := hP
    replace hD : va_D A (w3 ++ w4) := hD
    refine top_eq (y := 0) (thrown_r t10) ?_
    refine lv_if_ne (tgt := 228) X.1 X.2.1 dL_limit_91 (by decide) (fun c_91 => absurd (by decide) c_91) (fun c_91 => ?_)
    refine lv_aload_n X.1 X.2.1 dL_limit_94 rfl (lv_at hl 5 rfl) ?_
    refine lv_bipush (v := 8) X.1 X.2.1 dL_limit_95 (by decide) ?_
    refine lv_iload_n X.1 X.2.1 dL_limit_97 rfl (lv_at hl 7 rfl) ?_
    refine lv_iconst (v := 0) X.1 X.2.1 dL_limit_98 (by decide) ?_
    refine lv_iconst (v := 0) X.1 X.2.1 dL_limit_99 (by decide) ?_
    refine kGL (rest := []) (As := [.ref ho, .int 8, .int (nI N), .int 0, .int 0]) X hP hD hS hl.1 o3.len (q_run l hst G kk (by omega) o3 (nI N) 0 0 (hN)) sl_L_138 ⟨Nat.le_of_ble_eq_true rfl, Nat.le_of_ble_eq_true rfl, rfl, rfl⟩ ⟨by show _ ≤ 60; omega, by show _ ≤ 360; omega⟩ rfl (Nat.le_of_ble_eq_true rfl) dL_limit_100 (fun w5 r5 H locs hΦ a5 hP hD hS => ?_)
    obtain ⟨o5, rfl⟩ := hΦ
    replace a5 := a5.trans a3
    replace o5 : OB kk (B + 60) σB0 ho w5 := by rw [hB0]; rw [eN] at o5; exact o5
    refine top_eq (y := (RUNF σA0.1 N 5 - σA0.1 5)) (by rw [eN]) ?_
    refine lv_aload_n X.1 X.2.1 dL_limit_103 rfl (lv_at hl 6 rfl) ?_
    refine lv_bipush (v := 8) X.1 X.2.1 dL_limit_104 (by decide) ?_
    refine lv_iload_n X.1 X.2.1 dL_limit_106 rfl (lv_at hl 7 rfl) ?_
    refine lv_iconst (v := 0) X.1 X.2.1 dL_limit_107 (by decide) ?_
    refine lv_iconst (v := 0) X.1 X.2.1 dL_limit_108 (by decide) ?_
    refine kGR (rest := [.int (RUNF σA0.1 N 5 - σA0.1 5)]) (As := [.ref hq, .int 8, .int (nI N), .int 0, .int 0]) X hP hD hS hl.1 o4.len o5.len (q_run l hst G kk (by omega) o4 (nI N) 0 0 (hN)) sl_L_138 ⟨Nat.le_of_ble_eq_true rfl, Nat.le_of_ble_eq_true rfl, rfl, rfl⟩ ⟨by show _ ≤ 60; omega, by show _ ≤ 360; omega⟩ rfl (Nat.le_of_ble_eq_true rfl) dL_limit_109 (fun w6 r6 H locs hΦ a6 hP hD hS => ?_)
    obtain ⟨o6, rfl⟩ := hΦ
    replace a6 := a6.trans a4
    replace o6 : OB kk (B + 60) σB0 hq w6 := by rw [hB0]; rw [eN] at o6; exact o6
    refine top_eq (y := (RUNF σA0.1 N 5 - σA0.1 5)) (by rw [eN]) ?_
    refine lv_icmp_ne (tgt := 228) X.1 X.2.1 dL_limit_112 (by decide) (fun c_112 => absurd (rfl) c_112) (fun c_112 => ?_)
    refine lv_aload_n X.1 X.2.1 dL_limit_115 rfl (lv_at hl 5 rfl) ?_
    refine lv_iconst (v := 2) X.1 X.2.1 dL_limit_116 (by decide) ?_
    refine lv_iconst (v := 4) X.1 X.2.1 dL_limit_117 (by decide) ?_
    refine lv_iconst (v := 0) X.1 X.2.1 dL_limit_118 (by decide) ?_
    refine lv_iconst (v := 0) X.1 X.2.1 dL_limit_119 (by decide) ?_
    refine kGL (rest := []) (As := [.ref ho, .int 2, .int 4, .int 0, .int 0]) X hP hD hS hl.1 o5.len (q_about l hst G kk (by omega) o5 (4 : Int32) 0 0 ) sl_L_138 ⟨Nat.le_of_ble_eq_true rfl, Nat.le_of_ble_eq_true rfl, rfl, rfl⟩ ⟨by show _ ≤ 60; omega, by show _ ≤ 360; omega⟩ rfl (Nat.le_of_ble_eq_true rfl) dL_limit_120 (fun w7 r7 H locs hΦ a7 hP hD hS => ?_)
    obtain ⟨o7, rfl⟩ := hΦ
    replace a7 := a7.trans a5
    refine top_eq (y := (σB0.1 3)) (qa_4 σB0.1) ?_
    refine lv_iload X.1 X.2.1 dL_limit_123 (lv_at hl 3 rfl) ?_
    refine lv_icmp_ne (tgt := 132) X.1 X.2.1 dL_limit_125 (by decide) (fun c_125 => ?_) (fun c_125 => absurd c_125 ((by rw [f3]; exact e1)))
    refine lv_iconst (v := 0) X.1 X.2.1 dL_limit_132 (by decide) ?_
    refine lv_iload_n X.1 X.2.1 dL_limit_133 rfl (lv_at hl 4 rfl) ?_
    refine lv_iconst (v := (-1)) X.1 X.2.1 dL_limit_134 (by decide) ?_
    refine lv_icmp_eq (tgt := 147) X.1 X.2.1 dL_limit_135 (by decide) (fun c_135 => ?_) (fun c_135 => absurd (by decide) c_135)
    refine lv_iconst (v := 0) X.1 X.2.1 dL_limit_147 (by decide) ?_
    refine lv_icmp_ne (tgt := 228) X.1 X.2.1 dL_limit_148 (by decide) (fun c_148 => absurd (by decide) c_148) (fun c_148 => ?_)
    refine lv_aload_n X.1 X.2.1 dL_limit_151 rfl (lv_at hl 5 rfl) ?_
    refine lv_bipush (v := 10) X.1 X.2.1 dL_limit_152 (by decide) ?_
    refine lv_iconst (v := 0) X.1 X.2.1 dL_limit_154 (by decide) ?_
    refine lv_iconst (v := 0) X.1 X.2.1 dL_limit_155 (by decide) ?_
    refine lv_iconst (v := 0) X.1 X.2.1 dL_limit_156 (by decide) ?_
    refine kGL (rest := []) (As := [.ref ho, .int 10, .int 0, .int 0, .int 0]) X hP hD hS hl.1 o7.len (q_undo l hst G kk (by omega) o7  0 0 0 (hcB)) sl_L_138 ⟨Nat.le_of_ble_eq_true rfl, Nat.le_of_ble_eq_true rfl, rfl, rfl⟩ ⟨by show _ ≤ 60; omega, by show _ ≤ 360; omega⟩ rfl (Nat.le_of_ble_eq_true rfl) dL_limit_157 (fun w8 r8 H locs hΦ a8 hP hD hS => ?_)
    obtain ⟨o8, rfl⟩ := hΦ
    replace a8 := a8.trans a7
    replace o8 : OB kk (B + 60) σC0 ho w8 := by rw [hC0]; exact o8
    refine top_eq (y := (nI (σB0.2.1 - 1))) (rfl) ?_
    refine k_goI (k_runS (rest := []) (As := [.int (nI (σB0.2.1 - 1))]) X.1 X.2.1 X.2.2.1 X.2.2.2.1 X.2.2.2.2.1 X.2.2.2.2.2.1 hP hD hS X.2.2.2.2.2.2.1 X.2.2.2.2.2.2.2.1 hl.1 (c_L_thrown l G kk (nI (σB0.2.1 - 1))) sl_L_190 ⟨Nat.le_of_ble_eq_true rfl, Nat.le_of_ble_eq_true rfl, rfl, rfl⟩ [] rfl rfl ⟨by show _ ≤ 60; omega, by show _ ≤ 360; omega⟩ rfl (Nat.le_of_ble_eq_true rfl) dL_limit_160) hP hD hS X.2.2.2.2.2.2.1 [] rfl rfl (fun H locs hP hD hS => ?_)
    replace hP : va_P G vwCl (w8 ++ w6) H := hP
    replace hD : va_D A (w8 ++ w6) := hD
    refine top_eq (y := 0) (thrown_n (by omega)) ?_
    refine lv_if_ne (tgt := 228) X.1 X.2.1 dL_limit_163 (by decide) (fun c_163 => absurd (by decide) c_163) (fun c_163 => ?_)
    refine lv_aload_n X.1 X.2.1 dL_limit_166 rfl (lv_at hl 5 rfl) ?_
    refine lv_bipush (v := 10) X.1 X.2.1 dL_limit_167 (by decide) ?_
    refine lv_iconst (v := 0) X.1 X.2.1 dL_limit_169 (by decide) ?_
    refine lv_iconst (v := 0) X.1 X.2.1 dL_limit_170 (by decide) ?_
    refine lv_iconst (v := 0) X.1 X.2.1 dL_limit_171 (by decide) ?_
    refine kGL (rest := []) (As := [.ref ho, .int 10, .int 0, .int 0, .int 0]) X hP hD hS hl.1 o8.len (q_undo l hst G kk (by omega) o8  0 0 0 (hcC)) sl_L_138 ⟨Nat.le_of_ble_eq_true rfl, Nat.le_of_ble_eq_true rfl, rfl, rfl⟩ ⟨by show _ ≤ 60; omega, by show _ ≤ 360; omega⟩ rfl (Nat.le_of_ble_eq_true rfl) dL_limit_172 (fun w9 r9 H locs hΦ a9 hP hD hS => ?_)
    obtain ⟨o9, rfl⟩ := hΦ
    replace a9 := a9.trans a8
    replace o9 : OB kk (B + 60) σD0 ho w9 := by rw [hD0]; exact o9
    refine top_eq (y := (nI (σC0.2.1 - 1))) (rfl) ?_
    refine k_goI (k_runS (rest := []) (As := [.int (nI (σC0.2.1 - 1))]) X.1 X.2.1 X.2.2.1 X.2.2.2.1 X.2.2.2.2.1 X.2.2.2.2.2.1 hP hD hS X.2.2.2.2.2.2.1 X.2.2.2.2.2.2.2.1 hl.1 (c_L_thrown l G kk (nI (σC0.2.1 - 1))) sl_L_190 ⟨Nat.le_of_ble_eq_true rfl, Nat.le_of_ble_eq_true rfl, rfl, rfl⟩ [] rfl rfl ⟨by show _ ≤ 60; omega, by show _ ≤ 360; omega⟩ rfl (Nat.le_of_ble_eq_true rfl) dL_limit_175) hP hD hS X.2.2.2.2.2.2.1 [] rfl rfl (fun H locs hP hD hS => ?_)
    replace hP : va_P G vwCl (w9 ++ w6) H := hP
    replace hD : va_D A (w9 ++ w6) := hD
    refine top_eq (y := 0) (thrown_n (by omega)) ?_
    refine lv_if_ne (tgt := 228) X.1 X.2.1 dL_limit_178 (by decide) (fun c_178 => absurd (by decide) c_178) (fun c_178 => ?_)
    refine lv_aload_n X.1 X.2.1 dL_limit_181 rfl (lv_at hl 6 rfl) ?_
    refine lv_bipush (v := 10) X.1 X.2.1 dL_limit_182 (by decide) ?_
    refine lv_iconst (v := 0) X.1 X.2.1 dL_limit_184 (by decide) ?_
    refine lv_iconst (v := 0) X.1 X.2.1 dL_limit_185 (by decide) ?_
    refine lv_iconst (v := 0) X.1 X.2.1 dL_limit_186 (by decide) ?_
    refine kGR (rest := []) (As := [.ref hq, .int 10, .int 0, .int 0, .int 0]) X hP hD hS hl.1 o6.len o9.len (q_undo l hst G kk (by omega) o6  0 0 0 (hcB)) sl_L_138 ⟨Nat.le_of_ble_eq_true rfl, Nat.le_of_ble_eq_true rfl, rfl, rfl⟩ ⟨by show _ ≤ 60; omega, by show _ ≤ 360; omega⟩ rfl (Nat.le_of_ble_eq_true rfl) dL_limit_187 (fun w10 r10 H locs hΦ a10 hP hD hS => ?_)
    obtain ⟨o10, rfl⟩ := hΦ
    replace a10 := a10.trans a6
    replace o10 : OB kk (B + 60) σC0 hq w10 := by rw [hC0]; exact o10
    refine top_eq (y := (nI (σB0.2.1 - 1))) (rfl) ?_
    refine k_goI (k_runS (rest := []) (As := [.int (nI (σB0.2.1 - 1))]) X.1 X.2.1 X.2.2.1 X.2.2.2.1 X.2.2.2.2.1 X.2.2.2.2.2.1 hP hD hS X.2.2.2.2.2.2.1 X.2.2.2.2.2.2.2.1 hl.1 (c_L_thrown l G kk (nI (σB0.2.1 - 1))) sl_L_190 ⟨Nat.le_of_ble_eq_true rfl, Nat.le_of_ble_eq_true rfl, rfl, rfl⟩ [] rfl rfl ⟨by show _ ≤ 60; omega, by show _ ≤ 360; omega⟩ rfl (Nat.le_of_ble_eq_true rfl) dL_limit_190) hP hD hS X.2.2.2.2.2.2.1 [] rfl rfl (fun H locs hP hD hS => ?_)
    replace hP : va_P G vwCl (w9 ++ w10) H := hP
    replace hD : va_D A (w9 ++ w10) := hD
    refine top_eq (y := 0) (thrown_n (by omega)) ?_
    refine lv_if_ne (tgt := 228) X.1 X.2.1 dL_limit_193 (by decide) (fun c_193 => absurd (by decide) c_193) (fun c_193 => ?_)
    refine lv_aload_n X.1 X.2.1 dL_limit_196 rfl (lv_at hl 6 rfl) ?_
    refine lv_bipush (v := 10) X.1 X.2.1 dL_limit_197 (by decide) ?_
    refine lv_iconst (v := 0) X.1 X.2.1 dL_limit_199 (by decide) ?_
    refine lv_iconst (v := 0) X.1 X.2.1 dL_limit_200 (by decide) ?_
    refine lv_iconst (v := 0) X.1 X.2.1 dL_limit_201 (by decide) ?_
    refine kGR (rest := []) (As := [.ref hq, .int 10, .int 0, .int 0, .int 0]) X hP hD hS hl.1 o10.len o9.len (q_undo l hst G kk (by omega) o10  0 0 0 (hcC)) sl_L_138 ⟨Nat.le_of_ble_eq_true rfl, Nat.le_of_ble_eq_true rfl, rfl, rfl⟩ ⟨by show _ ≤ 60; omega, by show _ ≤ 360; omega⟩ rfl (Nat.le_of_ble_eq_true rfl) dL_limit_202 (fun w11 r11 H locs hΦ a11 hP hD hS => ?_)
    obtain ⟨o11, rfl⟩ := hΦ
    replace a11 := a11.trans a10
    replace o11 : OB kk (B + 60) σD0 hq w11 := by rw [hD0]; exact o11
    refine top_eq (y := (nI (σC0.2.1 - 1))) (rfl) ?_
    refine k_goI (k_runS (rest := []) (As := [.int (nI (σC0.2.1 - 1))]) X.1 X.2.1 X.2.2.1 X.2.2.2.1 X.2.2.2.2.1 X.2.2.2.2.2.1 hP hD hS X.2.2.2.2.2.2.1 X.2.2.2.2.2.2.2.1 hl.1 (c_L_thrown l G kk (nI (σC0.2.1 - 1))) sl_L_190 ⟨Nat.le_of_ble_eq_true rfl, Nat.le_of_ble_eq_true rfl, rfl, rfl⟩ [] rfl rfl ⟨by show _ ≤ 60; omega, by show _ ≤ 360; omega⟩ rfl (Nat.le_of_ble_eq_true rfl) dL_limit_205) hP hD hS X.2.2.2.2.2.2.1 [] rfl rfl (fun H locs hP hD hS => ?_)
    replace hP : va_P G vwCl (w9 ++ w11) H := hP
    replace hD : va_D A (w9 ++ w11) := hD
    refine top_eq (y := 0) (thrown_n (by omega)) ?_
    refine lv_if_ne (tgt := 228) X.1 X.2.1 dL_limit_208 (by decide) (fun c_208 => absurd (by decide) c_208) (fun c_208 => ?_)
    refine lv_aload_n X.1 X.2.1 dL_limit_211 rfl (lv_at hl 5 rfl) ?_
    refine lv_iconst (v := 2) X.1 X.2.1 dL_limit_212 (by decide) ?_
    refine lv_iconst (v := 4) X.1 X.2.1 dL_limit_213 (by decide) ?_
    refine lv_iconst (v := 0) X.1 X.2.1 dL_limit_214 (by decide) ?_
    refine lv_iconst (v := 0) X.1 X.2.1 dL_limit_215 (by decide) ?_
    refine kGL (rest := []) (As := [.ref ho, .int 2, .int 4, .int 0, .int 0]) X hP hD hS hl.1 o9.len (q_about l hst G kk (by omega) o9 (4 : Int32) 0 0 ) sl_L_138 ⟨Nat.le_of_ble_eq_true rfl, Nat.le_of_ble_eq_true rfl, rfl, rfl⟩ ⟨by show _ ≤ 60; omega, by show _ ≤ 360; omega⟩ rfl (Nat.le_of_ble_eq_true rfl) dL_limit_216 (fun w12 r12 H locs hΦ a12 hP hD hS => ?_)
    obtain ⟨o12, rfl⟩ := hΦ
    replace a12 := a12.trans a9
    refine top_eq (y := (σ.1 3)) ((qa_4 σD0.1).trans (by rw [fD])) ?_
    refine lv_iload X.1 X.2.1 dL_limit_219 (lv_at hl 3 rfl) ?_
    refine lv_icmp_ne (tgt := 228) X.1 X.2.1 dL_limit_221 (by decide) (fun c_221 => absurd (rfl) c_221) (fun c_221 => ?_)
    refine lv_iconst (v := 1) X.1 X.2.1 dL_limit_224 (by decide) ?_
    refine lv_goto (tgt := 229) X.1 X.2.1 dL_limit_225 (by decide) ?_
    refine lv_istore (lv' := [(5, .int 1), (7, .int (nI (100 * 99))), (6, .int 0), (4, .int (σ.1 3)), (3, .int (-1)), (0, .ref ho), (1, .ref hq), (2, .int (nI N))]) X.1 X.2.1 dL_limit_229 hl (by decide) rfl (fun ls hl => ?_)
    refine lv_iinc (v := 1) (lv' := [(6, .int 1), (5, .int 1), (7, .int (nI (100 * 99))), (4, .int (σ.1 3)), (3, .int (-1)), (0, .ref ho), (1, .ref hq), (2, .int (nI N))]) X.1 X.2.1 dL_limit_231 hl (k := 2) rfl rfl (by decide) rfl (fun ls hl => ?_)
    refine lv_goto (tgt := 26) X.1 X.2.1 dL_limit_234 (by decide) ?_
    have rw1 := fD
    have gd1 := gD
    refine lv_iload X.1 X.2.1 dL_limit_26 (lv_at hl 0 rfl) ?_
    refine lv_iconst (v := 2) X.1 X.2.1 dL_limit_28 (by decide) ?_
    refine lv_icmp_ge (tgt := 237) X.1 X.2.1 dL_limit_29 (by decide) (fun c_29 => absurd c_29 (by decide)) (fun c_29 => ?_)
    refine lv_iload X.1 X.2.1 dL_limit_32 (lv_at hl 1 rfl) ?_
    refine lv_if_eq (tgt := 237) X.1 X.2.1 dL_limit_34 (by decide) (fun c_34 => absurd c_34 (by decide)) (fun c_34 => ?_)
    refine lv_iload_n X.1 X.2.1 dL_limit_37 rfl (lv_at hl 4 rfl) ?_
    refine lv_iconst (v := (-1)) X.1 X.2.1 dL_limit_38 (by decide) ?_
    refine lv_icmp_ne (tgt := 48) X.1 X.2.1 dL_limit_39 (by decide) (fun c_39 => absurd (by decide) c_39) (fun c_39 => ?_)
    refine lv_sipush (v := 9900) X.1 X.2.1 dL_limit_42 (by decide) ?_
    refine top_eq (y := (nI (100 * 99))) (by decide) ?_
    refine lv_goto (tgt := 55) X.1 X.2.1 dL_limit_45 (by decide) ?_
    refine lv_istore (lv' := [(7, .int (nI (100 * 99))), (6, .int 1), (5, .int 1), (4, .int (σ.1 3)), (3, .int (-1)), (0, .ref ho), (1, .ref hq), (2, .int (nI N))]) X.1 X.2.1 dL_limit_55 hl (by decide) rfl (fun ls hl => ?_)
    refine lv_iload X.1 X.2.1 dL_limit_57 (lv_at hl 0 rfl) ?_
    refine lv_if_lt (tgt := 231) X.1 X.2.1 dL_limit_59 (by decide) (fun c_59 => absurd c_59 (nn_n (by omega))) (fun c_59 => ?_)
    obtain ⟨σA1, σB1, σC1, σD1, hA, hB0, hC0, hD0, f3, hcB, hcC, fD, gD⟩ := try_facts (σ := σD0) (99) N gd1 (by rw [rw1]; exact hm6)
    obtain ⟨hcB, hcB4⟩ := hcB
    obtain ⟨hcC, hcC4⟩ := hcC
    have t10 : 0 ≤ (σD0.1 10).toInt := by rw [rw1]; exact ok.2.2.1.1
    replace f3 : σB1.1 3 = RUNF (upd σ.1 10 (nI (100 * 99))) N 3 := by rw [f3, rw1]
    replace fD : σD1.1 = σ.1 := by rw [fD, rw1]
    have gN : 99 ≤ 99 := by omega
    refine lv_aload_n X.1 X.2.1 dL_limit_62 rfl (lv_at hl 5 rfl) ?_
    refine lv_bipush (v := 9) X.1 X.2.1 dL_limit_63 (by decide) ?_
    refine lv_iconst (v := 0) X.1 X.2.1 dL_limit_65 (by decide) ?_
    refine lv_iload X.1 X.2.1 dL_limit_66 (lv_at hl 0 rfl) ?_
    refine lv_iconst (v := 0) X.1 X.2.1 dL_limit_68 (by decide) ?_
    refine kGL (rest := []) (As := [.ref ho, .int 9, .int 0, .int (nI (100 * 99)), .int 0]) X hP hD hS hl.1 o12.len (q_set l hst G kk (by omega) o12 (0 : Int32) (nI (100 * 99)) 0 (set_lim (by omega))) sl_L_138 ⟨Nat.le_of_ble_eq_true rfl, Nat.le_of_ble_eq_true rfl, rfl, rfl⟩ ⟨by show _ ≤ 60; omega, by show _ ≤ 360; omega⟩ rfl (Nat.le_of_ble_eq_true rfl) dL_limit_69 (fun w13 r13 H locs hΦ a13 hP hD hS => ?_)
    obtain ⟨o13, rfl⟩ := hΦ
    replace a13 := a13.trans a12
    replace o13 : OB kk (B + 60) σA1 ho w13 := by rw [hA]; exact o13
    refine top_eq (y := (σD0.1 10)) (rfl) ?_
    refine k_goI (k_runS (rest := []) (As := [.int (σD0.1 10)]) X.1 X.2.1 X.2.2.1 X.2.2.2.1 X.2.2.2.2.1 X.2.2.2.2.2.1 hP hD hS X.2.2.2.2.2.2.1 X.2.2.2.2.2.2.2.1 hl.1 (c_L_thrown l G kk (σD0.1 10)) sl_L_190 ⟨Nat.le_of_ble_eq_true rfl, Nat.le_of_ble_eq_true rfl, rfl, rfl⟩ [] rfl rfl ⟨by show _ ≤ 60; omega, by show _ ≤ 360; omega⟩ rfl (Nat.le_of_ble_eq_true rfl) dL_limit_72) hP hD hS X.2.2.2.2.2.2.1 [] rfl rfl (fun H locs hP hD hS => ?_)
    replace hP : va_P G vwCl (w13 ++ w11) H := hP
    replace hD : va_D A (w13 ++ w11) := hD
    refine top_eq (y := 0) (thrown_r t10) ?_
    refine lv_if_ne (tgt := 228) X.1 X.2.1 dL_limit_75 (by decide) (fun c_75 => absurd (by decide) c_75) (fun c_75 => ?_)
    refine lv_aload_n X.1 X.2.1 dL_limit_78 rfl (lv_at hl 6 rfl) ?_
    refine lv_bipush (v := 9) X.1 X.2.1 dL_limit_79 (by decide) ?_
    refine lv_iconst (v := 0) X.1 X.2.1 dL_limit_81 (by decide) ?_
    refine lv_iload X.1 X.2.1 dL_limit_82 (lv_at hl 0 rfl) ?_
    refine lv_iconst (v := 0) X.1 X.2.1 dL_limit_84 (by decide) ?_
    refine kGR (rest := []) (As := [.ref hq, .int 9, .int 0, .int (nI (100 * 99)), .int 0]) X hP hD hS hl.1 o11.len o13.len (q_set l hst G kk (by omega) o11 (0 : Int32) (nI (100 * 99)) 0 (set_lim (by omega))) sl_L_138 ⟨Nat.le_of_ble_eq_true rfl, Nat.le_of_ble_eq_true rfl, rfl, rfl⟩ ⟨by show _ ≤ 60; omega, by show _ ≤ 360; omega⟩ rfl (Nat.le_of_ble_eq_true rfl) dL_limit_85 (fun w14 r14 H locs hΦ a14 hP hD hS => ?_)
    obtain ⟨o14, rfl⟩ := hΦ
    replace a14 := a14.trans a11
    replace o14 : OB kk (B + 60) σA1 hq w14 := by rw [hA]; exact o14
    refine top_eq (y := (σD0.1 10)) (rfl) ?_
    refine k_goI (k_runS (rest := []) (As := [.int (σD0.1 10)]) X.1 X.2.1 X.2.2.1 X.2.2.2.1 X.2.2.2.2.1 X.2.2.2.2.2.1 hP hD hS X.2.2.2.2.2.2.1 X.2.2.2.2.2.2.2.1 hl.1 (c_L_thrown l G kk (σD0.1 10)) sl_L_190 ⟨Nat.le_of_ble_eq_true rfl, Nat.le_of_ble_eq_true rfl, rfl, rfl⟩ [] rfl rfl ⟨by show _ ≤ 60; omega, by show _ ≤ 360; omega⟩ rfl (Nat.le_of_ble_eq_true rfl) dL_limit_88) hP hD hS X.2.2.2.2.2.2.1 [] rfl rfl (fun H locs hP hD hS => ?_)
    replace hP : va_P G vwCl (w13 ++ w14) H := hP
    replace hD : va_D A (w13 ++ w14) := hD
    refine top_eq (y := 0) (thrown_r t10) ?_
    refine lv_if_ne (tgt := 228) X.1 X.2.1 dL_limit_91 (by decide) (fun c_91 => absurd (by decide) c_91) (fun c_91 => ?_)
    refine lv_aload_n X.1 X.2.1 dL_limit_94 rfl (lv_at hl 5 rfl) ?_
    refine lv_bipush (v := 8) X.1 X.2.1 dL_limit_95 (by decide) ?_
    refine lv_iload_n X.1 X.2.1 dL_limit_97 rfl (lv_at hl 7 rfl) ?_
    refine lv_iconst (v := 0) X.1 X.2.1 dL_limit_98 (by decide) ?_
    refine lv_iconst (v := 0) X.1 X.2.1 dL_limit_99 (by decide) ?_
    refine kGL (rest := []) (As := [.ref ho, .int 8, .int (nI N), .int 0, .int 0]) X hP hD hS hl.1 o13.len (q_run l hst G kk (by omega) o13 (nI N) 0 0 (hN)) sl_L_138 ⟨Nat.le_of_ble_eq_true rfl, Nat.le_of_ble_eq_true rfl, rfl, rfl⟩ ⟨by show _ ≤ 60; omega, by show _ ≤ 360; omega⟩ rfl (Nat.le_of_ble_eq_true rfl) dL_limit_100 (fun w15 r15 H locs hΦ a15 hP hD hS => ?_)
    obtain ⟨o15, rfl⟩ := hΦ
    replace a15 := a15.trans a13
    replace o15 : OB kk (B + 60 + 60) σB1 ho w15 := by rw [hB0]; rw [eN] at o15; exact o15
    refine top_eq (y := (RUNF σA1.1 N 5 - σA1.1 5)) (by rw [eN]) ?_
    refine lv_aload_n X.1 X.2.1 dL_limit_103 rfl (lv_at hl 6 rfl) ?_
    refine lv_bipush (v := 8) X.1 X.2.1 dL_limit_104 (by decide) ?_
    refine lv_iload_n X.1 X.2.1 dL_limit_106 rfl (lv_at hl 7 rfl) ?_
    refine lv_iconst (v := 0) X.1 X.2.1 dL_limit_107 (by decide) ?_
    refine lv_iconst (v := 0) X.1 X.2.1 dL_limit_108 (by decide) ?_
    refine kGR (rest := [.int (RUNF σA1.1 N 5 - σA1.1 5)]) (As := [.ref hq, .int 8, .int (nI N), .int 0, .int 0]) X hP hD hS hl.1 o14.len o15.len (q_run l hst G kk (by omega) o14 (nI N) 0 0 (hN)) sl_L_138 ⟨Nat.le_of_ble_eq_true rfl, Nat.le_of_ble_eq_true rfl, rfl, rfl⟩ ⟨by show _ ≤ 60; omega, by show _ ≤ 360; omega⟩ rfl (Nat.le_of_ble_eq_true rfl) dL_limit_109 (fun w16 r16 H locs hΦ a16 hP hD hS => ?_)
    obtain ⟨o16, rfl⟩ := hΦ
    replace a16 := a16.trans a14
    replace o16 : OB kk (B + 60 + 60) σB1 hq w16 := by rw [hB0]; rw [eN] at o16; exact o16
    refine top_eq (y := (RUNF σA1.1 N 5 - σA1.1 5)) (by rw [eN]) ?_
    refine lv_icmp_ne (tgt := 228) X.1 X.2.1 dL_limit_112 (by decide) (fun c_112 => absurd (rfl) c_112) (fun c_112 => ?_)
    refine lv_aload_n X.1 X.2.1 dL_limit_115 rfl (lv_at hl 5 rfl) ?_
    refine lv_iconst (v := 2) X.1 X.2.1 dL_limit_116 (by decide) ?_
    refine lv_iconst (v := 4) X.1 X.2.1 dL_limit_117 (by decide) ?_
    refine lv_iconst (v := 0) X.1 X.2.1 dL_limit_118 (by decide) ?_
    refine lv_iconst (v := 0) X.1 X.2.1 dL_limit_119 (by decide) ?_
    refine kGL (rest := []) (As := [.ref ho, .int 2, .int 4, .int 0, .int 0]) X hP hD hS hl.1 o15.len (q_about l hst G kk (by omega) o15 (4 : Int32) 0 0 ) sl_L_138 ⟨Nat.le_of_ble_eq_true rfl, Nat.le_of_ble_eq_true rfl, rfl, rfl⟩ ⟨by show _ ≤ 60; omega, by show _ ≤ 360; omega⟩ rfl (Nat.le_of_ble_eq_true rfl) dL_limit_120 (fun w17 r17 H locs hΦ a17 hP hD hS => ?_)
    obtain ⟨o17, rfl⟩ := hΦ
    replace a17 := a17.trans a15
    refine top_eq (y := (σB1.1 3)) (qa_4 σB1.1) ?_
    refine lv_iload X.1 X.2.1 dL_limit_123 (lv_at hl 3 rfl) ?_
    refine lv_icmp_ne (tgt := 132) X.1 X.2.1 dL_limit_125 (by decide) (fun c_125 => ?_) (fun c_125 => absurd c_125 ((by rw [f3]; exact e1)))
    refine lv_iconst (v := 0) X.1 X.2.1 dL_limit_132 (by decide) ?_
    refine lv_iload_n X.1 X.2.1 dL_limit_133 rfl (lv_at hl 4 rfl) ?_
    refine lv_iconst (v := (-1)) X.1 X.2.1 dL_limit_134 (by decide) ?_
    refine lv_icmp_eq (tgt := 147) X.1 X.2.1 dL_limit_135 (by decide) (fun c_135 => ?_) (fun c_135 => absurd (by decide) c_135)
    refine lv_iconst (v := 0) X.1 X.2.1 dL_limit_147 (by decide) ?_
    refine lv_icmp_ne (tgt := 228) X.1 X.2.1 dL_limit_148 (by decide) (fun c_148 => absurd (by decide) c_148) (fun c_148 => ?_)
    refine lv_aload_n X.1 X.2.1 dL_limit_151 rfl (lv_at hl 5 rfl) ?_
    refine lv_bipush (v := 10) X.1 X.2.1 dL_limit_152 (by decide) ?_
    refine lv_iconst (v := 0) X.1 X.2.1 dL_limit_154 (by decide) ?_
    refine lv_iconst (v := 0) X.1 X.2.1 dL_limit_155 (by decide) ?_
    refine lv_iconst (v := 0) X.1 X.2.1 dL_limit_156 (by decide) ?_
    refine kGL (rest := []) (As := [.ref ho, .int 10, .int 0, .int 0, .int 0]) X hP hD hS hl.1 o17.len (q_undo l hst G kk (by omega) o17  0 0 0 (hcB)) sl_L_138 ⟨Nat.le_of_ble_eq_true rfl, Nat.le_of_ble_eq_true rfl, rfl, rfl⟩ ⟨by show _ ≤ 60; omega, by show _ ≤ 360; omega⟩ rfl (Nat.le_of_ble_eq_true rfl) dL_limit_157 (fun w18 r18 H locs hΦ a18 hP hD hS => ?_)
    obtain ⟨o18, rfl⟩ := hΦ
    replace a18 := a18.trans a17
    replace o18 : OB kk (B + 60 + 60) σC1 ho w18 := by rw [hC0]; exact o18
    refine top_eq (y := (nI (σB1.2.1 - 1))) (rfl) ?_
    refine k_goI (k_runS (rest := []) (As := [.int (nI (σB1.2.1 - 1))]) X.1 X.2.1 X.2.2.1 X.2.2.2.1 X.2.2.2.2.1 X.2.2.2.2.2.1 hP hD hS X.2.2.2.2.2.2.1 X.2.2.2.2.2.2.2.1 hl.1 (c_L_thrown l G kk (nI (σB1.2.1 - 1))) sl_L_190 ⟨Nat.le_of_ble_eq_true rfl, Nat.le_of_ble_eq_true rfl, rfl, rfl⟩ [] rfl rfl ⟨by show _ ≤ 60; omega, by show _ ≤ 360; omega⟩ rfl (Nat.le_of_ble_eq_true rfl) dL_limit_160) hP hD hS X.2.2.2.2.2.2.1 [] rfl rfl (fun H locs hP hD hS => ?_)
    replace hP : va_P G vwCl (w18 ++ w16) H := hP
    replace hD : va_D A (w18 ++ w16) := hD
    refine top_eq (y := 0) (thrown_n (by omega)) ?_
    refine lv_if_ne (tgt := 228) X.1 X.2.1 dL_limit_163 (by decide) (fun c_163 => absurd (by decide) c_163) (fun c_163 => ?_)
    refine lv_aload_n X.1 X.2.1 dL_limit_166 rfl (lv_at hl 5 rfl) ?_
    refine lv_bipush (v := 10) X.1 X.2.1 dL_limit_167 (by decide) ?_
    refine lv_iconst (v := 0) X.1 X.2.1 dL_limit_169 (by decide) ?_
    refine lv_iconst (v := 0) X.1 X.2.1 dL_limit_170 (by decide) ?_
    refine lv_iconst (v := 0) X.1 X.2.1 dL_limit_171 (by decide) ?_
    refine kGL (rest := []) (As := [.ref ho, .int 10, .int 0, .int 0, .int 0]) X hP hD hS hl.1 o18.len (q_undo l hst G kk (by omega) o18  0 0 0 (hcC)) sl_L_138 ⟨Nat.le_of_ble_eq_true rfl, Nat.le_of_ble_eq_true rfl, rfl, rfl⟩ ⟨by show _ ≤ 60; omega, by show _ ≤ 360; omega⟩ rfl (Nat.le_of_ble_eq_true rfl) dL_limit_172 (fun w19 r19 H locs hΦ a19 hP hD hS => ?_)
    obtain ⟨o19, rfl⟩ := hΦ
    replace a19 := a19.trans a18
    replace o19 : OB kk (B + 60 + 60) σD1 ho w19 := by rw [hD0]; exact o19
    refine top_eq (y := (nI (σC1.2.1 - 1))) (rfl) ?_
    refine k_goI (k_runS (rest := []) (As := [.int (nI (σC1.2.1 - 1))]) X.1 X.2.1 X.2.2.1 X.2.2.2.1 X.2.2.2.2.1 X.2.2.2.2.2.1 hP hD hS X.2.2.2.2.2.2.1 X.2.2.2.2.2.2.2.1 hl.1 (c_L_thrown l G kk (nI (σC1.2.1 - 1))) sl_L_190 ⟨Nat.le_of_ble_eq_true rfl, Nat.le_of_ble_eq_true rfl, rfl, rfl⟩ [] rfl rfl ⟨by show _ ≤ 60; omega, by show _ ≤ 360; omega⟩ rfl (Nat.le_of_ble_eq_true rfl) dL_limit_175) hP hD hS X.2.2.2.2.2.2.1 [] rfl rfl (fun H locs hP hD hS => ?_)
    replace hP : va_P G vwCl (w19 ++ w16) H := hP
    replace hD : va_D A (w19 ++ w16) := hD
    refine top_eq (y := 0) (thrown_n (by omega)) ?_
    refine lv_if_ne (tgt := 228) X.1 X.2.1 dL_limit_178 (by decide) (fun c_178 => absurd (by decide) c_178) (fun c_178 => ?_)
    refine lv_aload_n X.1 X.2.1 dL_limit_181 rfl (lv_at hl 6 rfl) ?_
    refine lv_bipush (v := 10) X.1 X.2.1 dL_limit_182 (by decide) ?_
    refine lv_iconst (v := 0) X.1 X.2.1 dL_limit_184 (by decide) ?_
    refine lv_iconst (v := 0) X.1 X.2.1 dL_limit_185 (by decide) ?_
    refine lv_iconst (v := 0) X.1 X.2.1 dL_limit_186 (by decide) ?_
    refine kGR (rest := []) (As := [.ref hq, .int 10, .int 0, .int 0, .int 0]) X hP hD hS hl.1 o16.len o19.len (q_undo l hst G kk (by omega) o16  0 0 0 (hcB)) sl_L_138 ⟨Nat.le_of_ble_eq_true rfl, Nat.le_of_ble_eq_true rfl, rfl, rfl⟩ ⟨by show _ ≤ 60; omega, by show _ ≤ 360; omega⟩ rfl (Nat.le_of_ble_eq_true rfl) dL_limit_187 (fun w20 r20 H locs hΦ a20 hP hD hS => ?_)
    obtain ⟨o20, rfl⟩ := hΦ
    replace a20 := a20.trans a16
    replace o20 : OB kk (B + 60 + 60) σC1 hq w20 := by rw [hC0]; exact o20
    refine top_eq (y := (nI (σB1.2.1 - 1))) (rfl) ?_
    refine k_goI (k_runS (rest := []) (As := [.int (nI (σB1.2.1 - 1))]) X.1 X.2.1 X.2.2.1 X.2.2.2.1 X.2.2.2.2.1 X.2.2.2.2.2.1 hP hD hS X.2.2.2.2.2.2.1 X.2.2.2.2.2.2.2.1 hl.1 (c_L_thrown l G kk (nI (σB1.2.1 - 1))) sl_L_190 ⟨Nat.le_of_ble_eq_true rfl, Nat.le_of_ble_eq_true rfl, rfl, rfl⟩ [] rfl rfl ⟨by show _ ≤ 60; omega, by show _ ≤ 360; omega⟩ rfl (Nat.le_of_ble_eq_true rfl) dL_limit_190) hP hD hS X.2.2.2.2.2.2.1 [] rfl rfl (fun H locs hP hD hS => ?_)
    replace hP : va_P G vwCl (w19 ++ w20) H := hP
    replace hD : va_D A (w19 ++ w20) := hD
    refine top_eq (y := 0) (thrown_n (by omega)) ?_
    refine lv_if_ne (tgt := 228) X.1 X.2.1 dL_limit_193 (by decide) (fun c_193 => absurd (by decide) c_193) (fun c_193 => ?_)
    refine lv_aload_n X.1 X.2.1 dL_limit_196 rfl (lv_at hl 6 rfl) ?_
    refine lv_bipush (v := 10) X.1 X.2.1 dL_limit_197 (by decide) ?_
    refine lv_iconst (v := 0) X.1 X.2.1 dL_limit_199 (by decide) ?_
    refine lv_iconst (v := 0) X.1 X.2.1 dL_limit_200 (by decide) ?_
    refine lv_iconst (v := 0) X.1 X.2.1 dL_limit_201 (by decide) ?_
    refine kGR (rest := []) (As := [.ref hq, .int 10, .int 0, .int 0, .int 0]) X hP hD hS hl.1 o20.len o19.len (q_undo l hst G kk (by omega) o20  0 0 0 (hcC)) sl_L_138 ⟨Nat.le_of_ble_eq_true rfl, Nat.le_of_ble_eq_true rfl, rfl, rfl⟩ ⟨by show _ ≤ 60; omega, by show _ ≤ 360; omega⟩ rfl (Nat.le_of_ble_eq_true rfl) dL_limit_202 (fun w21 r21 H locs hΦ a21 hP hD hS => ?_)
    obtain ⟨o21, rfl⟩ := hΦ
    replace a21 := a21.trans a20
    replace o21 : OB kk (B + 60 + 60) σD1 hq w21 := by rw [hD0]; exact o21
    refine top_eq (y := (nI (σC1.2.1 - 1))) (rfl) ?_
    refine k_goI (k_runS (rest := []) (As := [.int (nI (σC1.2.1 - 1))]) X.1 X.2.1 X.2.2.1 X.2.2.2.1 X.2.2.2.2.1 X.2.2.2.2.2.1 hP hD hS X.2.2.2.2.2.2.1 X.2.2.2.2.2.2.2.1 hl.1 (c_L_thrown l G kk (nI (σC1.2.1 - 1))) sl_L_190 ⟨Nat.le_of_ble_eq_true rfl, Nat.le_of_ble_eq_true rfl, rfl, rfl⟩ [] rfl rfl ⟨by show _ ≤ 60; omega, by show _ ≤ 360; omega⟩ rfl (Nat.le_of_ble_eq_true rfl) dL_limit_205) hP hD hS X.2.2.2.2.2.2.1 [] rfl rfl (fun H locs hP hD hS => ?_)
    replace hP : va_P G vwCl (w19 ++ w21) H := hP
    replace hD : va_D A (w19 ++ w21) := hD
    refine top_eq (y := 0) (thrown_n (by omega)) ?_
    refine lv_if_ne (tgt := 228) X.1 X.2.1 dL_limit_208 (by decide) (fun c_208 => absurd (by decide) c_208) (fun c_208 => ?_)
    refine lv_aload_n X.1 X.2.1 dL_limit_211 rfl (lv_at hl 5 rfl) ?_
    refine lv_iconst (v := 2) X.1 X.2.1 dL_limit_212 (by decide) ?_
    refine lv_iconst (v := 4) X.1 X.2.1 dL_limit_213 (by decide) ?_
    refine lv_iconst (v := 0) X.1 X.2.1 dL_limit_214 (by decide) ?_
    refine lv_iconst (v := 0) X.1 X.2.1 dL_limit_215 (by decide) ?_
    refine kGL (rest := []) (As := [.ref ho, .int 2, .int 4, .int 0, .int 0]) X hP hD hS hl.1 o19.len (q_about l hst G kk (by omega) o19 (4 : Int32) 0 0 ) sl_L_138 ⟨Nat.le_of_ble_eq_true rfl, Nat.le_of_ble_eq_true rfl, rfl, rfl⟩ ⟨by show _ ≤ 60; omega, by show _ ≤ 360; omega⟩ rfl (Nat.le_of_ble_eq_true rfl) dL_limit_216 (fun w22 r22 H locs hΦ a22 hP hD hS => ?_)
    obtain ⟨o22, rfl⟩ := hΦ
    replace a22 := a22.trans a19
    refine top_eq (y := (σ.1 3)) ((qa_4 σD1.1).trans (by rw [fD])) ?_
    refine lv_iload X.1 X.2.1 dL_limit_219 (lv_at hl 3 rfl) ?_
    refine lv_icmp_ne (tgt := 228) X.1 X.2.1 dL_limit_221 (by decide) (fun c_221 => absurd (rfl) c_221) (fun c_221 => ?_)
    refine lv_iconst (v := 1) X.1 X.2.1 dL_limit_224 (by decide) ?_
    refine lv_goto (tgt := 229) X.1 X.2.1 dL_limit_225 (by decide) ?_
    refine lv_istore (lv' := [(5, .int 1), (7, .int (nI (100 * 99))), (6, .int 1), (4, .int (σ.1 3)), (3, .int (-1)), (0, .ref ho), (1, .ref hq), (2, .int (nI N))]) X.1 X.2.1 dL_limit_229 hl (by decide) rfl (fun ls hl => ?_)
    refine lv_iinc (v := 2) (lv' := [(6, .int 2), (5, .int 1), (7, .int (nI (100 * 99))), (4, .int (σ.1 3)), (3, .int (-1)), (0, .ref ho), (1, .ref hq), (2, .int (nI N))]) X.1 X.2.1 dL_limit_231 hl (k := 2) rfl rfl (by decide) rfl (fun ls hl => ?_)
    refine lv_goto (tgt := 26) X.1 X.2.1 dL_limit_234 (by decide) ?_
    refine lv_iload X.1 X.2.1 dL_limit_26 (lv_at hl 0 rfl) ?_
    refine lv_iconst (v := 2) X.1 X.2.1 dL_limit_28 (by decide) ?_
    refine lv_icmp_ge (tgt := 237) X.1 X.2.1 dL_limit_29 (by decide) (fun c_29 => ?_) (fun c_29 => absurd (by decide) c_29)
    refine lv_iload X.1 X.2.1 dL_limit_237 (lv_at hl 1 rfl) ?_
    refine W.widen (k := 60) (n := 360) (by omega) (by omega) ?_
    exact FIN _ 1 H locs ls 239 ⟨⟨_, gD, _, _, rfl, OB.mono (by omega) o22, OB.mono (by omega) o21⟩, rfl⟩ (ads_app a22 a21) hP hD hS (fun _ => rfl) dL_limit_239
  · subst k2
    refine lv_iload X.1 X.2.1 dL_limit_26 (lv_at hl 0 rfl) ?_
    refine lv_iconst (v := 2) X.1 X.2.1 dL_limit_28 (by decide) ?_
    refine lv_icmp_ge (tgt := 237) X.1 X.2.1 dL_limit_29 (by decide) (fun c_29 => absurd c_29 (by decide)) (fun c_29 => ?_)
    refine lv_iload X.1 X.2.1 dL_limit_32 (lv_at hl 1 rfl) ?_
    refine lv_if_eq (tgt := 237) X.1 X.2.1 dL_limit_34 (by decide) (fun c_34 => absurd c_34 (by decide)) (fun c_34 => ?_)
    refine lv_iload_n X.1 X.2.1 dL_limit_37 rfl (lv_at hl 3 rfl) ?_
    refine lv_iconst (v := (-1)) X.1 X.2.1 dL_limit_38 (by decide) ?_
    refine lv_icmp_ne (tgt := 48) X.1 X.2.1 dL_limit_39 (by decide) (fun c_39 => ?_) (fun c_39 => absurd c_39 (nI_nm1 (by omega)))
    refine lv_iload_n X.1 X.2.1 dL_limit_48 rfl (lv_at hl 3 rfl) ?_
    refine lv_bipush (v := 100) X.1 X.2.1 dL_limit_49 (by decide) ?_
    refine lv_iload X.1 X.2.1 dL_limit_51 (lv_at hl 0 rfl) ?_
    refine lv_imul X.1 X.2.1 dL_limit_53 ?_
    refine top_eq (y := 0) (by decide) ?_
    refine lv_isub X.1 X.2.1 dL_limit_54 ?_
    refine top_eq (y := (nI (100 * k))) (lim_0 k) ?_
    refine lv_istore (lv' := [(7, .int (nI (100 * k))), (6, .int 0), (5, .int 1), (4, .int (σ.1 3)), (3, .int (nI (100 * k))), (0, .ref ho), (1, .ref hq), (2, .int (nI N))]) X.1 X.2.1 dL_limit_55 hl (by decide) rfl (fun ls hl => ?_)
    refine lv_iload X.1 X.2.1 dL_limit_57 (lv_at hl 0 rfl) ?_
    refine lv_if_lt (tgt := 231) X.1 X.2.1 dL_limit_59 (by decide) (fun c_59 => absurd c_59 (nn_n (by omega))) (fun c_59 => ?_)
    have k5 : RUNF (upd σ.1 10 (nI (100 * k))) N 3 = σ.1 3 := k3
    obtain ⟨σA2, σB2, σC2, σD2, hA, hB0, hC0, hD0, f3, hcB, hcC, fD, gD⟩ := try_facts (σ := σ) (k) N hG (by rw [(rfl : σ.1 = σ.1)]; exact hm6)
    obtain ⟨hcB, hcB4⟩ := hcB
    obtain ⟨hcC, hcC4⟩ := hcC
    have t10 : 0 ≤ (σ.1 10).toInt := by rw [(rfl : σ.1 = σ.1)]; exact ok.2.2.1.1
    replace f3 : σB2.1 3 = RUNF (upd σ.1 10 (nI (100 * k))) N 3 := by rw [f3, (rfl : σ.1 = σ.1)]
    replace fD : σD2.1 = σ.1 := by rw [fD, (rfl : σ.1 = σ.1)]
    have gN : k ≤ 99 := by omega
    refine lv_aload_n X.1 X.2.1 dL_limit_62 rfl (lv_at hl 5 rfl) ?_
    refine lv_bipush (v := 9) X.1 X.2.1 dL_limit_63 (by decide) ?_
    refine lv_iconst (v := 0) X.1 X.2.1 dL_limit_65 (by decide) ?_
    refine lv_iload X.1 X.2.1 dL_limit_66 (lv_at hl 0 rfl) ?_
    refine lv_iconst (v := 0) X.1 X.2.1 dL_limit_68 (by decide) ?_
    refine kGL (rest := []) (As := [.ref ho, .int 9, .int 0, .int (nI (100 * k)), .int 0]) X hP hD hS hl.1 o2.len (q_set l hst G kk (by omega) o2 (0 : Int32) (nI (100 * k)) 0 (set_lim (by omega))) sl_L_138 ⟨Nat.le_of_ble_eq_true rfl, Nat.le_of_ble_eq_true rfl, rfl, rfl⟩ ⟨by show _ ≤ 60; omega, by show _ ≤ 360; omega⟩ rfl (Nat.le_of_ble_eq_true rfl) dL_limit_69 (fun w23 r23 H locs hΦ a23 hP hD hS => ?_)
    obtain ⟨o23, rfl⟩ := hΦ
    replace a23 := a23.trans a2
    replace o23 : OB kk (B) σA2 ho w23 := by rw [hA]; exact o23
    refine top_eq (y := (σ.1 10)) (rfl) ?_
    refine k_goI (k_runS (rest := []) (As := [.int (σ.1 10)]) X.1 X.2.1 X.2.2.1 X.2.2.2.1 X.2.2.2.2.1 X.2.2.2.2.2.1 hP hD hS X.2.2.2.2.2.2.1 X.2.2.2.2.2.2.2.1 hl.1 (c_L_thrown l G kk (σ.1 10)) sl_L_190 ⟨Nat.le_of_ble_eq_true rfl, Nat.le_of_ble_eq_true rfl, rfl, rfl⟩ [] rfl rfl ⟨by show _ ≤ 60; omega, by show _ ≤ 360; omega⟩ rfl (Nat.le_of_ble_eq_true rfl) dL_limit_72) hP hD hS X.2.2.2.2.2.2.1 [] rfl rfl (fun H locs hP hD hS => ?_)
    replace hP : va_P G vwCl (w23 ++ wb) H := hP
    replace hD : va_D A (w23 ++ wb) := hD
    refine top_eq (y := 0) (thrown_r t10) ?_
    refine lv_if_ne (tgt := 228) X.1 X.2.1 dL_limit_75 (by decide) (fun c_75 => absurd (by decide) c_75) (fun c_75 => ?_)
    refine lv_aload_n X.1 X.2.1 dL_limit_78 rfl (lv_at hl 6 rfl) ?_
    refine lv_bipush (v := 9) X.1 X.2.1 dL_limit_79 (by decide) ?_
    refine lv_iconst (v := 0) X.1 X.2.1 dL_limit_81 (by decide) ?_
    refine lv_iload X.1 X.2.1 dL_limit_82 (lv_at hl 0 rfl) ?_
    refine lv_iconst (v := 0) X.1 X.2.1 dL_limit_84 (by decide) ?_
    refine kGR (rest := []) (As := [.ref hq, .int 9, .int 0, .int (nI (100 * k)), .int 0]) X hP hD hS hl.1 ob.len o23.len (q_set l hst G kk (by omega) ob (0 : Int32) (nI (100 * k)) 0 (set_lim (by omega))) sl_L_138 ⟨Nat.le_of_ble_eq_true rfl, Nat.le_of_ble_eq_true rfl, rfl, rfl⟩ ⟨by show _ ≤ 60; omega, by show _ ≤ 360; omega⟩ rfl (Nat.le_of_ble_eq_true rfl) dL_limit_85 (fun w24 r24 H locs hΦ a24 hP hD hS => ?_)
    obtain ⟨o24, rfl⟩ := hΦ
    replace a24 := a24.trans b0
    replace o24 : OB kk (B) σA2 hq w24 := by rw [hA]; exact o24
    refine top_eq (y := (σ.1 10)) (rfl) ?_
    refine k_goI (k_runS (rest := []) (As := [.int (σ.1 10)]) X.1 X.2.1 X.2.2.1 X.2.2.2.1 X.2.2.2.2.1 X.2.2.2.2.2.1 hP hD hS X.2.2.2.2.2.2.1 X.2.2.2.2.2.2.2.1 hl.1 (c_L_thrown l G kk (σ.1 10)) sl_L_190 ⟨Nat.le_of_ble_eq_true rfl, Nat.le_of_ble_eq_true rfl, rfl, rfl⟩ [] rfl rfl ⟨by show _ ≤ 60; omega, by show _ ≤ 360; omega⟩ rfl (Nat.le_of_ble_eq_true rfl) dL_limit_88) hP hD hS X.2.2.2.2.2.2.1 [] rfl rfl (fun H locs hP hD hS => ?_)
    replace hP : va_P G vwCl (w23 ++ w24) H := hP
    replace hD : va_D A (w23 ++ w24) := hD
    refine top_eq (y := 0) (thrown_r t10) ?_
    refine lv_if_ne (tgt := 228) X.1 X.2.1 dL_limit_91 (by decide) (fun c_91 => absurd (by decide) c_91) (fun c_91 => ?_)
    refine lv_aload_n X.1 X.2.1 dL_limit_94 rfl (lv_at hl 5 rfl) ?_
    refine lv_bipush (v := 8) X.1 X.2.1 dL_limit_95 (by decide) ?_
    refine lv_iload_n X.1 X.2.1 dL_limit_97 rfl (lv_at hl 7 rfl) ?_
    refine lv_iconst (v := 0) X.1 X.2.1 dL_limit_98 (by decide) ?_
    refine lv_iconst (v := 0) X.1 X.2.1 dL_limit_99 (by decide) ?_
    refine kGL (rest := []) (As := [.ref ho, .int 8, .int (nI N), .int 0, .int 0]) X hP hD hS hl.1 o23.len (q_run l hst G kk (by omega) o23 (nI N) 0 0 (hN)) sl_L_138 ⟨Nat.le_of_ble_eq_true rfl, Nat.le_of_ble_eq_true rfl, rfl, rfl⟩ ⟨by show _ ≤ 60; omega, by show _ ≤ 360; omega⟩ rfl (Nat.le_of_ble_eq_true rfl) dL_limit_100 (fun w25 r25 H locs hΦ a25 hP hD hS => ?_)
    obtain ⟨o25, rfl⟩ := hΦ
    replace a25 := a25.trans a23
    replace o25 : OB kk (B + 60) σB2 ho w25 := by rw [hB0]; rw [eN] at o25; exact o25
    refine top_eq (y := (RUNF σA2.1 N 5 - σA2.1 5)) (by rw [eN]) ?_
    refine lv_aload_n X.1 X.2.1 dL_limit_103 rfl (lv_at hl 6 rfl) ?_
    refine lv_bipush (v := 8) X.1 X.2.1 dL_limit_104 (by decide) ?_
    refine lv_iload_n X.1 X.2.1 dL_limit_106 rfl (lv_at hl 7 rfl) ?_
    refine lv_iconst (v := 0) X.1 X.2.1 dL_limit_107 (by decide) ?_
    refine lv_iconst (v := 0) X.1 X.2.1 dL_limit_108 (by decide) ?_
    refine kGR (rest := [.int (RUNF σA2.1 N 5 - σA2.1 5)]) (As := [.ref hq, .int 8, .int (nI N), .int 0, .int 0]) X hP hD hS hl.1 o24.len o25.len (q_run l hst G kk (by omega) o24 (nI N) 0 0 (hN)) sl_L_138 ⟨Nat.le_of_ble_eq_true rfl, Nat.le_of_ble_eq_true rfl, rfl, rfl⟩ ⟨by show _ ≤ 60; omega, by show _ ≤ 360; omega⟩ rfl (Nat.le_of_ble_eq_true rfl) dL_limit_109 (fun w26 r26 H locs hΦ a26 hP hD hS => ?_)
    obtain ⟨o26, rfl⟩ := hΦ
    replace a26 := a26.trans a24
    replace o26 : OB kk (B + 60) σB2 hq w26 := by rw [hB0]; rw [eN] at o26; exact o26
    refine top_eq (y := (RUNF σA2.1 N 5 - σA2.1 5)) (by rw [eN]) ?_
    refine lv_icmp_ne (tgt := 228) X.1 X.2.1 dL_limit_112 (by decide) (fun c_112 => absurd (rfl) c_112) (fun c_112 => ?_)
    refine lv_aload_n X.1 X.2.1 dL_limit_115 rfl (lv_at hl 5 rfl) ?_
    refine lv_iconst (v := 2) X.1 X.2.1 dL_limit_116 (by decide) ?_
    refine lv_iconst (v := 4) X.1 X.2.1 dL_limit_117 (by decide) ?_
    refine lv_iconst (v := 0) X.1 X.2.1 dL_limit_118 (by decide) ?_
    refine lv_iconst (v := 0) X.1 X.2.1 dL_limit_119 (by decide) ?_
    refine kGL (rest := []) (As := [.ref ho, .int 2, .int 4, .int 0, .int 0]) X hP hD hS hl.1 o25.len (q_about l hst G kk (by omega) o25 (4 : Int32) 0 0 ) sl_L_138 ⟨Nat.le_of_ble_eq_true rfl, Nat.le_of_ble_eq_true rfl, rfl, rfl⟩ ⟨by show _ ≤ 60; omega, by show _ ≤ 360; omega⟩ rfl (Nat.le_of_ble_eq_true rfl) dL_limit_120 (fun w27 r27 H locs hΦ a27 hP hD hS => ?_)
    obtain ⟨o27, rfl⟩ := hΦ
    replace a27 := a27.trans a25
    refine top_eq (y := (σB2.1 3)) (qa_4 σB2.1) ?_
    refine lv_iload X.1 X.2.1 dL_limit_123 (lv_at hl 3 rfl) ?_
    refine lv_icmp_ne (tgt := 132) X.1 X.2.1 dL_limit_125 (by decide) (fun c_125 => absurd ((by rw [f3]; exact k5)) c_125) (fun c_125 => ?_)
    refine lv_iconst (v := 1) X.1 X.2.1 dL_limit_128 (by decide) ?_
    refine lv_goto (tgt := 133) X.1 X.2.1 dL_limit_129 (by decide) ?_
    refine lv_iload_n X.1 X.2.1 dL_limit_133 rfl (lv_at hl 4 rfl) ?_
    refine lv_iconst (v := (-1)) X.1 X.2.1 dL_limit_134 (by decide) ?_
    refine lv_icmp_eq (tgt := 147) X.1 X.2.1 dL_limit_135 (by decide) (fun c_135 => absurd c_135 (nI_nm1 (by omega))) (fun c_135 => ?_)
    refine lv_iload X.1 X.2.1 dL_limit_138 (lv_at hl 1 rfl) ?_
    refine lv_if_ne (tgt := 147) X.1 X.2.1 dL_limit_140 (by decide) (fun c_140 => absurd (by decide) c_140) (fun c_140 => ?_)
    refine lv_iconst (v := 1) X.1 X.2.1 dL_limit_143 (by decide) ?_
    refine lv_goto (tgt := 148) X.1 X.2.1 dL_limit_144 (by decide) ?_
    refine lv_icmp_ne (tgt := 228) X.1 X.2.1 dL_limit_148 (by decide) (fun c_148 => absurd (by decide) c_148) (fun c_148 => ?_)
    refine lv_aload_n X.1 X.2.1 dL_limit_151 rfl (lv_at hl 5 rfl) ?_
    refine lv_bipush (v := 10) X.1 X.2.1 dL_limit_152 (by decide) ?_
    refine lv_iconst (v := 0) X.1 X.2.1 dL_limit_154 (by decide) ?_
    refine lv_iconst (v := 0) X.1 X.2.1 dL_limit_155 (by decide) ?_
    refine lv_iconst (v := 0) X.1 X.2.1 dL_limit_156 (by decide) ?_
    refine kGL (rest := []) (As := [.ref ho, .int 10, .int 0, .int 0, .int 0]) X hP hD hS hl.1 o27.len (q_undo l hst G kk (by omega) o27  0 0 0 (hcB)) sl_L_138 ⟨Nat.le_of_ble_eq_true rfl, Nat.le_of_ble_eq_true rfl, rfl, rfl⟩ ⟨by show _ ≤ 60; omega, by show _ ≤ 360; omega⟩ rfl (Nat.le_of_ble_eq_true rfl) dL_limit_157 (fun w28 r28 H locs hΦ a28 hP hD hS => ?_)
    obtain ⟨o28, rfl⟩ := hΦ
    replace a28 := a28.trans a27
    replace o28 : OB kk (B + 60) σC2 ho w28 := by rw [hC0]; exact o28
    refine top_eq (y := (nI (σB2.2.1 - 1))) (rfl) ?_
    refine k_goI (k_runS (rest := []) (As := [.int (nI (σB2.2.1 - 1))]) X.1 X.2.1 X.2.2.1 X.2.2.2.1 X.2.2.2.2.1 X.2.2.2.2.2.1 hP hD hS X.2.2.2.2.2.2.1 X.2.2.2.2.2.2.2.1 hl.1 (c_L_thrown l G kk (nI (σB2.2.1 - 1))) sl_L_190 ⟨Nat.le_of_ble_eq_true rfl, Nat.le_of_ble_eq_true rfl, rfl, rfl⟩ [] rfl rfl ⟨by show _ ≤ 60; omega, by show _ ≤ 360; omega⟩ rfl (Nat.le_of_ble_eq_true rfl) dL_limit_160) hP hD hS X.2.2.2.2.2.2.1 [] rfl rfl (fun H locs hP hD hS => ?_)
    replace hP : va_P G vwCl (w28 ++ w26) H := hP
    replace hD : va_D A (w28 ++ w26) := hD
    refine top_eq (y := 0) (thrown_n (by omega)) ?_
    refine lv_if_ne (tgt := 228) X.1 X.2.1 dL_limit_163 (by decide) (fun c_163 => absurd (by decide) c_163) (fun c_163 => ?_)
    refine lv_aload_n X.1 X.2.1 dL_limit_166 rfl (lv_at hl 5 rfl) ?_
    refine lv_bipush (v := 10) X.1 X.2.1 dL_limit_167 (by decide) ?_
    refine lv_iconst (v := 0) X.1 X.2.1 dL_limit_169 (by decide) ?_
    refine lv_iconst (v := 0) X.1 X.2.1 dL_limit_170 (by decide) ?_
    refine lv_iconst (v := 0) X.1 X.2.1 dL_limit_171 (by decide) ?_
    refine kGL (rest := []) (As := [.ref ho, .int 10, .int 0, .int 0, .int 0]) X hP hD hS hl.1 o28.len (q_undo l hst G kk (by omega) o28  0 0 0 (hcC)) sl_L_138 ⟨Nat.le_of_ble_eq_true rfl, Nat.le_of_ble_eq_true rfl, rfl, rfl⟩ ⟨by show _ ≤ 60; omega, by show _ ≤ 360; omega⟩ rfl (Nat.le_of_ble_eq_true rfl) dL_limit_172 (fun w29 r29 H locs hΦ a29 hP hD hS => ?_)
    obtain ⟨o29, rfl⟩ := hΦ
    replace a29 := a29.trans a28
    replace o29 : OB kk (B + 60) σD2 ho w29 := by rw [hD0]; exact o29
    refine top_eq (y := (nI (σC2.2.1 - 1))) (rfl) ?_
    refine k_goI (k_runS (rest := []) (As := [.int (nI (σC2.2.1 - 1))]) X.1 X.2.1 X.2.2.1 X.2.2.2.1 X.2.2.2.2.1 X.2.2.2.2.2.1 hP hD hS X.2.2.2.2.2.2.1 X.2.2.2.2.2.2.2.1 hl.1 (c_L_thrown l G kk (nI (σC2.2.1 - 1))) sl_L_190 ⟨Nat.le_of_ble_eq_true rfl, Nat.le_of_ble_eq_true rfl, rfl, rfl⟩ [] rfl rfl ⟨by show _ ≤ 60; omega, by show _ ≤ 360; omega⟩ rfl (Nat.le_of_ble_eq_true rfl) dL_limit_175) hP hD hS X.2.2.2.2.2.2.1 [] rfl rfl (fun H locs hP hD hS => ?_)
    replace hP : va_P G vwCl (w29 ++ w26) H := hP
    replace hD : va_D A (w29 ++ w26) := hD
    refine top_eq (y := 0) (thrown_n (by omega)) ?_
    refine lv_if_ne (tgt := 228) X.1 X.2.1 dL_limit_178 (by decide) (fun c_178 => absurd (by decide) c_178) (fun c_178 => ?_)
    refine lv_aload_n X.1 X.2.1 dL_limit_181 rfl (lv_at hl 6 rfl) ?_
    refine lv_bipush (v := 10) X.1 X.2.1 dL_limit_182 (by decide) ?_
    refine lv_iconst (v := 0) X.1 X.2.1 dL_limit_184 (by decide) ?_
    refine lv_iconst (v := 0) X.1 X.2.1 dL_limit_185 (by decide) ?_
    refine lv_iconst (v := 0) X.1 X.2.1 dL_limit_186 (by decide) ?_
    refine kGR (rest := []) (As := [.ref hq, .int 10, .int 0, .int 0, .int 0]) X hP hD hS hl.1 o26.len o29.len (q_undo l hst G kk (by omega) o26  0 0 0 (hcB)) sl_L_138 ⟨Nat.le_of_ble_eq_true rfl, Nat.le_of_ble_eq_true rfl, rfl, rfl⟩ ⟨by show _ ≤ 60; omega, by show _ ≤ 360; omega⟩ rfl (Nat.le_of_ble_eq_true rfl) dL_limit_187 (fun w30 r30 H locs hΦ a30 hP hD hS => ?_)
    obtain ⟨o30, rfl⟩ := hΦ
    replace a30 := a30.trans a26
    replace o30 : OB kk (B + 60) σC2 hq w30 := by rw [hC0]; exact o30
    refine top_eq (y := (nI (σB2.2.1 - 1))) (rfl) ?_
    refine k_goI (k_runS (rest := []) (As := [.int (nI (σB2.2.1 - 1))]) X.1 X.2.1 X.2.2.1 X.2.2.2.1 X.2.2.2.2.1 X.2.2.2.2.2.1 hP hD hS X.2.2.2.2.2.2.1 X.2.2.2.2.2.2.2.1 hl.1 (c_L_thrown l G kk (nI (σB2.2.1 - 1))) sl_L_190 ⟨Nat.le_of_ble_eq_true rfl, Nat.le_of_ble_eq_true rfl, rfl, rfl⟩ [] rfl rfl ⟨by show _ ≤ 60; omega, by show _ ≤ 360; omega⟩ rfl (Nat.le_of_ble_eq_true rfl) dL_limit_190) hP hD hS X.2.2.2.2.2.2.1 [] rfl rfl (fun H locs hP hD hS => ?_)
    replace hP : va_P G vwCl (w29 ++ w30) H := hP
    replace hD : va_D A (w29 ++ w30) := hD
    refine top_eq (y := 0) (thrown_n (by omega)) ?_
    refine lv_if_ne (tgt := 228) X.1 X.2.1 dL_limit_193 (by decide) (fun c_193 => absurd (by decide) c_193) (fun c_193 => ?_)
    refine lv_aload_n X.1 X.2.1 dL_limit_196 rfl (lv_at hl 6 rfl) ?_
    refine lv_bipush (v := 10) X.1 X.2.1 dL_limit_197 (by decide) ?_
    refine lv_iconst (v := 0) X.1 X.2.1 dL_limit_199 (by decide) ?_
    refine lv_iconst (v := 0) X.1 X.2.1 dL_limit_200 (by decide) ?_
    refine lv_iconst (v := 0) X.1 X.2.1 dL_limit_201 (by decide) ?_
    refine kGR (rest := []) (As := [.ref hq, .int 10, .int 0, .int 0, .int 0]) X hP hD hS hl.1 o30.len o29.len (q_undo l hst G kk (by omega) o30  0 0 0 (hcC)) sl_L_138 ⟨Nat.le_of_ble_eq_true rfl, Nat.le_of_ble_eq_true rfl, rfl, rfl⟩ ⟨by show _ ≤ 60; omega, by show _ ≤ 360; omega⟩ rfl (Nat.le_of_ble_eq_true rfl) dL_limit_202 (fun w31 r31 H locs hΦ a31 hP hD hS => ?_)
    obtain ⟨o31, rfl⟩ := hΦ
    replace a31 := a31.trans a30
    replace o31 : OB kk (B + 60) σD2 hq w31 := by rw [hD0]; exact o31
    refine top_eq (y := (nI (σC2.2.1 - 1))) (rfl) ?_
    refine k_goI (k_runS (rest := []) (As := [.int (nI (σC2.2.1 - 1))]) X.1 X.2.1 X.2.2.1 X.2.2.2.1 X.2.2.2.2.1 X.2.2.2.2.2.1 hP hD hS X.2.2.2.2.2.2.1 X.2.2.2.2.2.2.2.1 hl.1 (c_L_thrown l G kk (nI (σC2.2.1 - 1))) sl_L_190 ⟨Nat.le_of_ble_eq_true rfl, Nat.le_of_ble_eq_true rfl, rfl, rfl⟩ [] rfl rfl ⟨by show _ ≤ 60; omega, by show _ ≤ 360; omega⟩ rfl (Nat.le_of_ble_eq_true rfl) dL_limit_205) hP hD hS X.2.2.2.2.2.2.1 [] rfl rfl (fun H locs hP hD hS => ?_)
    replace hP : va_P G vwCl (w29 ++ w31) H := hP
    replace hD : va_D A (w29 ++ w31) := hD
    refine top_eq (y := 0) (thrown_n (by omega)) ?_
    refine lv_if_ne (tgt := 228) X.1 X.2.1 dL_limit_208 (by decide) (fun c_208 => absurd (by decide) c_208) (fun c_208 => ?_)
    refine lv_aload_n X.1 X.2.1 dL_limit_211 rfl (lv_at hl 5 rfl) ?_
    refine lv_iconst (v := 2) X.1 X.2.1 dL_limit_212 (by decide) ?_
    refine lv_iconst (v := 4) X.1 X.2.1 dL_limit_213 (by decide) ?_
    refine lv_iconst (v := 0) X.1 X.2.1 dL_limit_214 (by decide) ?_
    refine lv_iconst (v := 0) X.1 X.2.1 dL_limit_215 (by decide) ?_
    refine kGL (rest := []) (As := [.ref ho, .int 2, .int 4, .int 0, .int 0]) X hP hD hS hl.1 o29.len (q_about l hst G kk (by omega) o29 (4 : Int32) 0 0 ) sl_L_138 ⟨Nat.le_of_ble_eq_true rfl, Nat.le_of_ble_eq_true rfl, rfl, rfl⟩ ⟨by show _ ≤ 60; omega, by show _ ≤ 360; omega⟩ rfl (Nat.le_of_ble_eq_true rfl) dL_limit_216 (fun w32 r32 H locs hΦ a32 hP hD hS => ?_)
    obtain ⟨o32, rfl⟩ := hΦ
    replace a32 := a32.trans a29
    refine top_eq (y := (σ.1 3)) ((qa_4 σD2.1).trans (by rw [fD])) ?_
    refine lv_iload X.1 X.2.1 dL_limit_219 (lv_at hl 3 rfl) ?_
    refine lv_icmp_ne (tgt := 228) X.1 X.2.1 dL_limit_221 (by decide) (fun c_221 => absurd (rfl) c_221) (fun c_221 => ?_)
    refine lv_iconst (v := 1) X.1 X.2.1 dL_limit_224 (by decide) ?_
    refine lv_goto (tgt := 229) X.1 X.2.1 dL_limit_225 (by decide) ?_
    refine lv_istore (lv' := [(5, .int 1), (7, .int (nI (100 * k))), (6, .int 0), (4, .int (σ.1 3)), (3, .int (nI (100 * k))), (0, .ref ho), (1, .ref hq), (2, .int (nI N))]) X.1 X.2.1 dL_limit_229 hl (by decide) rfl (fun ls hl => ?_)
    refine lv_iinc (v := 1) (lv' := [(6, .int 1), (5, .int 1), (7, .int (nI (100 * k))), (4, .int (σ.1 3)), (3, .int (nI (100 * k))), (0, .ref ho), (1, .ref hq), (2, .int (nI N))]) X.1 X.2.1 dL_limit_231 hl (k := 2) rfl rfl (by decide) rfl (fun ls hl => ?_)
    refine lv_goto (tgt := 26) X.1 X.2.1 dL_limit_234 (by decide) ?_
    have rw1 := fD
    have gd1 := gD
    by_cases hk : k = 0
    · subst hk
      refine lv_iload X.1 X.2.1 dL_limit_26 (lv_at hl 0 rfl) ?_
      refine lv_iconst (v := 2) X.1 X.2.1 dL_limit_28 (by decide) ?_
      refine lv_icmp_ge (tgt := 237) X.1 X.2.1 dL_limit_29 (by decide) (fun c_29 => absurd c_29 (by decide)) (fun c_29 => ?_)
      refine lv_iload X.1 X.2.1 dL_limit_32 (lv_at hl 1 rfl) ?_
      refine lv_if_eq (tgt := 237) X.1 X.2.1 dL_limit_34 (by decide) (fun c_34 => absurd c_34 (by decide)) (fun c_34 => ?_)
      refine lv_iload_n X.1 X.2.1 dL_limit_37 rfl (lv_at hl 4 rfl) ?_
      refine lv_iconst (v := (-1)) X.1 X.2.1 dL_limit_38 (by decide) ?_
      refine lv_icmp_ne (tgt := 48) X.1 X.2.1 dL_limit_39 (by decide) (fun c_39 => ?_) (fun c_39 => absurd c_39 (nI_nm1 (by omega)))
      refine lv_iload_n X.1 X.2.1 dL_limit_48 rfl (lv_at hl 4 rfl) ?_
      refine lv_bipush (v := 100) X.1 X.2.1 dL_limit_49 (by decide) ?_
      refine lv_iload X.1 X.2.1 dL_limit_51 (lv_at hl 0 rfl) ?_
      refine lv_imul X.1 X.2.1 dL_limit_53 ?_
      refine top_eq (y := 100) (by decide) ?_
      refine lv_isub X.1 X.2.1 dL_limit_54 ?_
      refine lv_istore (lv' := [(7, .int ((nI (100 * 0)) - 100)), (6, .int 1), (5, .int 1), (4, .int (σ.1 3)), (3, .int (nI (100 * 0))), (0, .ref ho), (1, .ref hq), (2, .int (nI N))]) X.1 X.2.1 dL_limit_55 hl (by decide) rfl (fun ls hl => ?_)
      refine lv_iload X.1 X.2.1 dL_limit_57 (lv_at hl 0 rfl) ?_
      refine lv_if_lt (tgt := 231) X.1 X.2.1 dL_limit_59 (by decide) (fun c_59 => ?_) (fun c_59 => absurd (neg_100) c_59)
      refine lv_iinc (v := 2) (lv' := [(6, .int 2), (7, .int ((nI (100 * 0)) - 100)), (5, .int 1), (4, .int (σ.1 3)), (3, .int (nI (100 * 0))), (0, .ref ho), (1, .ref hq), (2, .int (nI N))]) X.1 X.2.1 dL_limit_231 hl (k := 1) rfl rfl (by decide) rfl (fun ls hl => ?_)
      refine lv_goto (tgt := 26) X.1 X.2.1 dL_limit_234 (by decide) ?_
      refine lv_iload X.1 X.2.1 dL_limit_26 (lv_at hl 0 rfl) ?_
      refine lv_iconst (v := 2) X.1 X.2.1 dL_limit_28 (by decide) ?_
      refine lv_icmp_ge (tgt := 237) X.1 X.2.1 dL_limit_29 (by decide) (fun c_29 => ?_) (fun c_29 => absurd (by decide) c_29)
      refine lv_iload X.1 X.2.1 dL_limit_237 (lv_at hl 2 rfl) ?_
      refine W.widen (k := 60) (n := 360) (by omega) (by omega) ?_
      exact FIN _ 1 H locs ls 239 ⟨⟨_, gd1, _, _, rfl, OB.mono (by omega) o32, OB.mono (by omega) o31⟩, rfl⟩ (ads_app a32 a31) hP hD hS (fun _ => rfl) dL_limit_239
    · skip
      refine lv_iload X.1 X.2.1 dL_limit_26 (lv_at hl 0 rfl) ?_
      refine lv_iconst (v := 2) X.1 X.2.1 dL_limit_28 (by decide) ?_
      refine lv_icmp_ge (tgt := 237) X.1 X.2.1 dL_limit_29 (by decide) (fun c_29 => absurd c_29 (by decide)) (fun c_29 => ?_)
      refine lv_iload X.1 X.2.1 dL_limit_32 (lv_at hl 1 rfl) ?_
      refine lv_if_eq (tgt := 237) X.1 X.2.1 dL_limit_34 (by decide) (fun c_34 => absurd c_34 (by decide)) (fun c_34 => ?_)
      refine lv_iload_n X.1 X.2.1 dL_limit_37 rfl (lv_at hl 4 rfl) ?_
      refine lv_iconst (v := (-1)) X.1 X.2.1 dL_limit_38 (by decide) ?_
      refine lv_icmp_ne (tgt := 48) X.1 X.2.1 dL_limit_39 (by decide) (fun c_39 => ?_) (fun c_39 => absurd c_39 (nI_nm1 (by omega)))
      refine lv_iload_n X.1 X.2.1 dL_limit_48 rfl (lv_at hl 4 rfl) ?_
      refine lv_bipush (v := 100) X.1 X.2.1 dL_limit_49 (by decide) ?_
      refine lv_iload X.1 X.2.1 dL_limit_51 (lv_at hl 0 rfl) ?_
      refine lv_imul X.1 X.2.1 dL_limit_53 ?_
      refine top_eq (y := 100) (by decide) ?_
      refine lv_isub X.1 X.2.1 dL_limit_54 ?_
      refine top_eq (y := (nI (100 * (k - 1)))) (lim_1 k (by omega) k1) ?_
      refine lv_istore (lv' := [(7, .int (nI (100 * (k - 1)))), (6, .int 1), (5, .int 1), (4, .int (σ.1 3)), (3, .int (nI (100 * k))), (0, .ref ho), (1, .ref hq), (2, .int (nI N))]) X.1 X.2.1 dL_limit_55 hl (by decide) rfl (fun ls hl => ?_)
      refine lv_iload X.1 X.2.1 dL_limit_57 (lv_at hl 0 rfl) ?_
      refine lv_if_lt (tgt := 231) X.1 X.2.1 dL_limit_59 (by decide) (fun c_59 => absurd c_59 (nn_n (by omega))) (fun c_59 => ?_)
      have k6 : ¬ RUNF (upd σ.1 10 (nI (100 * (k - 1)))) N 3 = σ.1 3 := k4 (k - 1) (by omega)
      obtain ⟨σA3, σB3, σC3, σD3, hA, hB0, hC0, hD0, f3, hcB, hcC, fD, gD⟩ := try_facts (σ := σD2) (k - 1) N gd1 (by rw [rw1]; exact hm6)
      obtain ⟨hcB, hcB4⟩ := hcB
      obtain ⟨hcC, hcC4⟩ := hcC
      have t10 : 0 ≤ (σD2.1 10).toInt := by rw [rw1]; exact ok.2.2.1.1
      replace f3 : σB3.1 3 = RUNF (upd σ.1 10 (nI (100 * (k - 1)))) N 3 := by rw [f3, rw1]
      replace fD : σD3.1 = σ.1 := by rw [fD, rw1]
      have gN : k - 1 ≤ 99 := by omega
      refine lv_aload_n X.1 X.2.1 dL_limit_62 rfl (lv_at hl 5 rfl) ?_
      refine lv_bipush (v := 9) X.1 X.2.1 dL_limit_63 (by decide) ?_
      refine lv_iconst (v := 0) X.1 X.2.1 dL_limit_65 (by decide) ?_
      refine lv_iload X.1 X.2.1 dL_limit_66 (lv_at hl 0 rfl) ?_
      refine lv_iconst (v := 0) X.1 X.2.1 dL_limit_68 (by decide) ?_
      refine kGL (rest := []) (As := [.ref ho, .int 9, .int 0, .int (nI (100 * (k - 1))), .int 0]) X hP hD hS hl.1 o32.len (q_set l hst G kk (by omega) o32 (0 : Int32) (nI (100 * (k - 1))) 0 (set_lim (by omega))) sl_L_138 ⟨Nat.le_of_ble_eq_true rfl, Nat.le_of_ble_eq_true rfl, rfl, rfl⟩ ⟨by show _ ≤ 60; omega, by show _ ≤ 360; omega⟩ rfl (Nat.le_of_ble_eq_true rfl) dL_limit_69 (fun w33 r33 H locs hΦ a33 hP hD hS => ?_)
      obtain ⟨o33, rfl⟩ := hΦ
      replace a33 := a33.trans a32
      replace o33 : OB kk (B + 60) σA3 ho w33 := by rw [hA]; exact o33
      refine top_eq (y := (σD2.1 10)) (rfl) ?_
      refine k_goI (k_runS (rest := []) (As := [.int (σD2.1 10)]) X.1 X.2.1 X.2.2.1 X.2.2.2.1 X.2.2.2.2.1 X.2.2.2.2.2.1 hP hD hS X.2.2.2.2.2.2.1 X.2.2.2.2.2.2.2.1 hl.1 (c_L_thrown l G kk (σD2.1 10)) sl_L_190 ⟨Nat.le_of_ble_eq_true rfl, Nat.le_of_ble_eq_true rfl, rfl, rfl⟩ [] rfl rfl ⟨by show _ ≤ 60; omega, by show _ ≤ 360; omega⟩ rfl (Nat.le_of_ble_eq_true rfl) dL_limit_72) hP hD hS X.2.2.2.2.2.2.1 [] rfl rfl (fun H locs hP hD hS => ?_)
      replace hP : va_P G vwCl (w33 ++ w31) H := hP
      replace hD : va_D A (w33 ++ w31) := hD
      refine top_eq (y := 0) (thrown_r t10) ?_
      refine lv_if_ne (tgt := 228) X.1 X.2.1 dL_limit_75 (by decide) (fun c_75 => absurd (by decide) c_75) (fun c_75 => ?_)
      refine lv_aload_n X.1 X.2.1 dL_limit_78 rfl (lv_at hl 6 rfl) ?_
      refine lv_bipush (v := 9) X.1 X.2.1 dL_limit_79 (by decide) ?_
      refine lv_iconst (v := 0) X.1 X.2.1 dL_limit_81 (by decide) ?_
      refine lv_iload X.1 X.2.1 dL_limit_82 (lv_at hl 0 rfl) ?_
      refine lv_iconst (v := 0) X.1 X.2.1 dL_limit_84 (by decide) ?_
      refine kGR (rest := []) (As := [.ref hq, .int 9, .int 0, .int (nI (100 * (k - 1))), .int 0]) X hP hD hS hl.1 o31.len o33.len (q_set l hst G kk (by omega) o31 (0 : Int32) (nI (100 * (k - 1))) 0 (set_lim (by omega))) sl_L_138 ⟨Nat.le_of_ble_eq_true rfl, Nat.le_of_ble_eq_true rfl, rfl, rfl⟩ ⟨by show _ ≤ 60; omega, by show _ ≤ 360; omega⟩ rfl (Nat.le_of_ble_eq_true rfl) dL_limit_85 (fun w34 r34 H locs hΦ a34 hP hD hS => ?_)
      obtain ⟨o34, rfl⟩ := hΦ
      replace a34 := a34.trans a31
      replace o34 : OB kk (B + 60) σA3 hq w34 := by rw [hA]; exact o34
      refine top_eq (y := (σD2.1 10)) (rfl) ?_
      refine k_goI (k_runS (rest := []) (As := [.int (σD2.1 10)]) X.1 X.2.1 X.2.2.1 X.2.2.2.1 X.2.2.2.2.1 X.2.2.2.2.2.1 hP hD hS X.2.2.2.2.2.2.1 X.2.2.2.2.2.2.2.1 hl.1 (c_L_thrown l G kk (σD2.1 10)) sl_L_190 ⟨Nat.le_of_ble_eq_true rfl, Nat.le_of_ble_eq_true rfl, rfl, rfl⟩ [] rfl rfl ⟨by show _ ≤ 60; omega, by show _ ≤ 360; omega⟩ rfl (Nat.le_of_ble_eq_true rfl) dL_limit_88) hP hD hS X.2.2.2.2.2.2.1 [] rfl rfl (fun H locs hP hD hS => ?_)
      replace hP : va_P G vwCl (w33 ++ w34) H := hP
      replace hD : va_D A (w33 ++ w34) := hD
      refine top_eq (y := 0) (thrown_r t10) ?_
      refine lv_if_ne (tgt := 228) X.1 X.2.1 dL_limit_91 (by decide) (fun c_91 => absurd (by decide) c_91) (fun c_91 => ?_)
      refine lv_aload_n X.1 X.2.1 dL_limit_94 rfl (lv_at hl 5 rfl) ?_
      refine lv_bipush (v := 8) X.1 X.2.1 dL_limit_95 (by decide) ?_
      refine lv_iload_n X.1 X.2.1 dL_limit_97 rfl (lv_at hl 7 rfl) ?_
      refine lv_iconst (v := 0) X.1 X.2.1 dL_limit_98 (by decide) ?_
      refine lv_iconst (v := 0) X.1 X.2.1 dL_limit_99 (by decide) ?_
      refine kGL (rest := []) (As := [.ref ho, .int 8, .int (nI N), .int 0, .int 0]) X hP hD hS hl.1 o33.len (q_run l hst G kk (by omega) o33 (nI N) 0 0 (hN)) sl_L_138 ⟨Nat.le_of_ble_eq_true rfl, Nat.le_of_ble_eq_true rfl, rfl, rfl⟩ ⟨by show _ ≤ 60; omega, by show _ ≤ 360; omega⟩ rfl (Nat.le_of_ble_eq_true rfl) dL_limit_100 (fun w35 r35 H locs hΦ a35 hP hD hS => ?_)
      obtain ⟨o35, rfl⟩ := hΦ
      replace a35 := a35.trans a33
      replace o35 : OB kk (B + 60 + 60) σB3 ho w35 := by rw [hB0]; rw [eN] at o35; exact o35
      refine top_eq (y := (RUNF σA3.1 N 5 - σA3.1 5)) (by rw [eN]) ?_
      refine lv_aload_n X.1 X.2.1 dL_limit_103 rfl (lv_at hl 6 rfl) ?_
      refine lv_bipush (v := 8) X.1 X.2.1 dL_limit_104 (by decide) ?_
      refine lv_iload_n X.1 X.2.1 dL_limit_106 rfl (lv_at hl 7 rfl) ?_
      refine lv_iconst (v := 0) X.1 X.2.1 dL_limit_107 (by decide) ?_
      refine lv_iconst (v := 0) X.1 X.2.1 dL_limit_108 (by decide) ?_
      refine kGR (rest := [.int (RUNF σA3.1 N 5 - σA3.1 5)]) (As := [.ref hq, .int 8, .int (nI N), .int 0, .int 0]) X hP hD hS hl.1 o34.len o35.len (q_run l hst G kk (by omega) o34 (nI N) 0 0 (hN)) sl_L_138 ⟨Nat.le_of_ble_eq_true rfl, Nat.le_of_ble_eq_true rfl, rfl, rfl⟩ ⟨by show _ ≤ 60; omega, by show _ ≤ 360; omega⟩ rfl (Nat.le_of_ble_eq_true rfl) dL_limit_109 (fun w36 r36 H locs hΦ a36 hP hD hS => ?_)
      obtain ⟨o36, rfl⟩ := hΦ
      replace a36 := a36.trans a34
      replace o36 : OB kk (B + 60 + 60) σB3 hq w36 := by rw [hB0]; rw [eN] at o36; exact o36
      refine top_eq (y := (RUNF σA3.1 N 5 - σA3.1 5)) (by rw [eN]) ?_
      refine lv_icmp_ne (tgt := 228) X.1 X.2.1 dL_limit_112 (by decide) (fun c_112 => absurd (rfl) c_112) (fun c_112 => ?_)
      refine lv_aload_n X.1 X.2.1 dL_limit_115 rfl (lv_at hl 5 rfl) ?_
      refine lv_iconst (v := 2) X.1 X.2.1 dL_limit_116 (by decide) ?_
      refine lv_iconst (v := 4) X.1 X.2.1 dL_limit_117 (by decide) ?_
      refine lv_iconst (v := 0) X.1 X.2.1 dL_limit_118 (by decide) ?_
      refine lv_iconst (v := 0) X.1 X.2.1 dL_limit_119 (by decide) ?_
      refine kGL (rest := []) (As := [.ref ho, .int 2, .int 4, .int 0, .int 0]) X hP hD hS hl.1 o35.len (q_about l hst G kk (by omega) o35 (4 : Int32) 0 0 ) sl_L_138 ⟨Nat.le_of_ble_eq_true rfl, Nat.le_of_ble_eq_true rfl, rfl, rfl⟩ ⟨by show _ ≤ 60; omega, by show _ ≤ 360; omega⟩ rfl (Nat.le_of_ble_eq_true rfl) dL_limit_120 (fun w37 r37 H locs hΦ a37 hP hD hS => ?_)
      obtain ⟨o37, rfl⟩ := hΦ
      replace a37 := a37.trans a35
      refine top_eq (y := (σB3.1 3)) (qa_4 σB3.1) ?_
      refine lv_iload X.1 X.2.1 dL_limit_123 (lv_at hl 3 rfl) ?_
      refine lv_icmp_ne (tgt := 132) X.1 X.2.1 dL_limit_125 (by decide) (fun c_125 => ?_) (fun c_125 => absurd c_125 ((by rw [f3]; exact k6)))
      refine lv_iconst (v := 0) X.1 X.2.1 dL_limit_132 (by decide) ?_
      refine lv_iload_n X.1 X.2.1 dL_limit_133 rfl (lv_at hl 4 rfl) ?_
      refine lv_iconst (v := (-1)) X.1 X.2.1 dL_limit_134 (by decide) ?_
      refine lv_icmp_eq (tgt := 147) X.1 X.2.1 dL_limit_135 (by decide) (fun c_135 => absurd c_135 (nI_nm1 (by omega))) (fun c_135 => ?_)
      refine lv_iload X.1 X.2.1 dL_limit_138 (lv_at hl 1 rfl) ?_
      refine lv_if_ne (tgt := 147) X.1 X.2.1 dL_limit_140 (by decide) (fun c_140 => ?_) (fun c_140 => absurd c_140 (by decide))
      refine lv_iconst (v := 0) X.1 X.2.1 dL_limit_147 (by decide) ?_
      refine lv_icmp_ne (tgt := 228) X.1 X.2.1 dL_limit_148 (by decide) (fun c_148 => absurd (by decide) c_148) (fun c_148 => ?_)
      refine lv_aload_n X.1 X.2.1 dL_limit_151 rfl (lv_at hl 5 rfl) ?_
      refine lv_bipush (v := 10) X.1 X.2.1 dL_limit_152 (by decide) ?_
      refine lv_iconst (v := 0) X.1 X.2.1 dL_limit_154 (by decide) ?_
      refine lv_iconst (v := 0) X.1 X.2.1 dL_limit_155 (by decide) ?_
      refine lv_iconst (v := 0) X.1 X.2.1 dL_limit_156 (by decide) ?_
      refine kGL (rest := []) (As := [.ref ho, .int 10, .int 0, .int 0, .int 0]) X hP hD hS hl.1 o37.len (q_undo l hst G kk (by omega) o37  0 0 0 (hcB)) sl_L_138 ⟨Nat.le_of_ble_eq_true rfl, Nat.le_of_ble_eq_true rfl, rfl, rfl⟩ ⟨by show _ ≤ 60; omega, by show _ ≤ 360; omega⟩ rfl (Nat.le_of_ble_eq_true rfl) dL_limit_157 (fun w38 r38 H locs hΦ a38 hP hD hS => ?_)
      obtain ⟨o38, rfl⟩ := hΦ
      replace a38 := a38.trans a37
      replace o38 : OB kk (B + 60 + 60) σC3 ho w38 := by rw [hC0]; exact o38
      refine top_eq (y := (nI (σB3.2.1 - 1))) (rfl) ?_
      refine k_goI (k_runS (rest := []) (As := [.int (nI (σB3.2.1 - 1))]) X.1 X.2.1 X.2.2.1 X.2.2.2.1 X.2.2.2.2.1 X.2.2.2.2.2.1 hP hD hS X.2.2.2.2.2.2.1 X.2.2.2.2.2.2.2.1 hl.1 (c_L_thrown l G kk (nI (σB3.2.1 - 1))) sl_L_190 ⟨Nat.le_of_ble_eq_true rfl, Nat.le_of_ble_eq_true rfl, rfl, rfl⟩ [] rfl rfl ⟨by show _ ≤ 60; omega, by show _ ≤ 360; omega⟩ rfl (Nat.le_of_ble_eq_true rfl) dL_limit_160) hP hD hS X.2.2.2.2.2.2.1 [] rfl rfl (fun H locs hP hD hS => ?_)
      replace hP : va_P G vwCl (w38 ++ w36) H := hP
      replace hD : va_D A (w38 ++ w36) := hD
      refine top_eq (y := 0) (thrown_n (by omega)) ?_
      refine lv_if_ne (tgt := 228) X.1 X.2.1 dL_limit_163 (by decide) (fun c_163 => absurd (by decide) c_163) (fun c_163 => ?_)
      refine lv_aload_n X.1 X.2.1 dL_limit_166 rfl (lv_at hl 5 rfl) ?_
      refine lv_bipush (v := 10) X.1 X.2.1 dL_limit_167 (by decide) ?_
      refine lv_iconst (v := 0) X.1 X.2.1 dL_limit_169 (by decide) ?_
      refine lv_iconst (v := 0) X.1 X.2.1 dL_limit_170 (by decide) ?_
      refine lv_iconst (v := 0) X.1 X.2.1 dL_limit_171 (by decide) ?_
      refine kGL (rest := []) (As := [.ref ho, .int 10, .int 0, .int 0, .int 0]) X hP hD hS hl.1 o38.len (q_undo l hst G kk (by omega) o38  0 0 0 (hcC)) sl_L_138 ⟨Nat.le_of_ble_eq_true rfl, Nat.le_of_ble_eq_true rfl, rfl, rfl⟩ ⟨by show _ ≤ 60; omega, by show _ ≤ 360; omega⟩ rfl (Nat.le_of_ble_eq_true rfl) dL_limit_172 (fun w39 r39 H locs hΦ a39 hP hD hS => ?_)
      obtain ⟨o39, rfl⟩ := hΦ
      replace a39 := a39.trans a38
      replace o39 : OB kk (B + 60 + 60) σD3 ho w39 := by rw [hD0]; exact o39
      refine top_eq (y := (nI (σC3.2.1 - 1))) (rfl) ?_
      refine k_goI (k_runS (rest := []) (As := [.int (nI (σC3.2.1 - 1))]) X.1 X.2.1 X.2.2.1 X.2.2.2.1 X.2.2.2.2.1 X.2.2.2.2.2.1 hP hD hS X.2.2.2.2.2.2.1 X.2.2.2.2.2.2.2.1 hl.1 (c_L_thrown l G kk (nI (σC3.2.1 - 1))) sl_L_190 ⟨Nat.le_of_ble_eq_true rfl, Nat.le_of_ble_eq_true rfl, rfl, rfl⟩ [] rfl rfl ⟨by show _ ≤ 60; omega, by show _ ≤ 360; omega⟩ rfl (Nat.le_of_ble_eq_true rfl) dL_limit_175) hP hD hS X.2.2.2.2.2.2.1 [] rfl rfl (fun H locs hP hD hS => ?_)
      replace hP : va_P G vwCl (w39 ++ w36) H := hP
      replace hD : va_D A (w39 ++ w36) := hD
      refine top_eq (y := 0) (thrown_n (by omega)) ?_
      refine lv_if_ne (tgt := 228) X.1 X.2.1 dL_limit_178 (by decide) (fun c_178 => absurd (by decide) c_178) (fun c_178 => ?_)
      refine lv_aload_n X.1 X.2.1 dL_limit_181 rfl (lv_at hl 6 rfl) ?_
      refine lv_bipush (v := 10) X.1 X.2.1 dL_limit_182 (by decide) ?_
      refine lv_iconst (v := 0) X.1 X.2.1 dL_limit_184 (by decide) ?_
      refine lv_iconst (v := 0) X.1 X.2.1 dL_limit_185 (by decide) ?_
      refine lv_iconst (v := 0) X.1 X.2.1 dL_limit_186 (by decide) ?_
      refine kGR (rest := []) (As := [.ref hq, .int 10, .int 0, .int 0, .int 0]) X hP hD hS hl.1 o36.len o39.len (q_undo l hst G kk (by omega) o36  0 0 0 (hcB)) sl_L_138 ⟨Nat.le_of_ble_eq_true rfl, Nat.le_of_ble_eq_true rfl, rfl, rfl⟩ ⟨by show _ ≤ 60; omega, by show _ ≤ 360; omega⟩ rfl (Nat.le_of_ble_eq_true rfl) dL_limit_187 (fun w40 r40 H locs hΦ a40 hP hD hS => ?_)
      obtain ⟨o40, rfl⟩ := hΦ
      replace a40 := a40.trans a36
      replace o40 : OB kk (B + 60 + 60) σC3 hq w40 := by rw [hC0]; exact o40
      refine top_eq (y := (nI (σB3.2.1 - 1))) (rfl) ?_
      refine k_goI (k_runS (rest := []) (As := [.int (nI (σB3.2.1 - 1))]) X.1 X.2.1 X.2.2.1 X.2.2.2.1 X.2.2.2.2.1 X.2.2.2.2.2.1 hP hD hS X.2.2.2.2.2.2.1 X.2.2.2.2.2.2.2.1 hl.1 (c_L_thrown l G kk (nI (σB3.2.1 - 1))) sl_L_190 ⟨Nat.le_of_ble_eq_true rfl, Nat.le_of_ble_eq_true rfl, rfl, rfl⟩ [] rfl rfl ⟨by show _ ≤ 60; omega, by show _ ≤ 360; omega⟩ rfl (Nat.le_of_ble_eq_true rfl) dL_limit_190) hP hD hS X.2.2.2.2.2.2.1 [] rfl rfl (fun H locs hP hD hS => ?_)
      replace hP : va_P G vwCl (w39 ++ w40) H := hP
      replace hD : va_D A (w39 ++ w40) := hD
      refine top_eq (y := 0) (thrown_n (by omega)) ?_
      refine lv_if_ne (tgt := 228) X.1 X.2.1 dL_limit_193 (by decide) (fun c_193 => absurd (by decide) c_193) (fun c_193 => ?_)
      refine lv_aload_n X.1 X.2.1 dL_limit_196 rfl (lv_at hl 6 rfl) ?_
      refine lv_bipush (v := 10) X.1 X.2.1 dL_limit_197 (by decide) ?_
      refine lv_iconst (v := 0) X.1 X.2.1 dL_limit_199 (by decide) ?_
      refine lv_iconst (v := 0) X.1 X.2.1 dL_limit_200 (by decide) ?_
      refine lv_iconst (v := 0) X.1 X.2.1 dL_limit_201 (by decide) ?_
      refine kGR (rest := []) (As := [.ref hq, .int 10, .int 0, .int 0, .int 0]) X hP hD hS hl.1 o40.len o39.len (q_undo l hst G kk (by omega) o40  0 0 0 (hcC)) sl_L_138 ⟨Nat.le_of_ble_eq_true rfl, Nat.le_of_ble_eq_true rfl, rfl, rfl⟩ ⟨by show _ ≤ 60; omega, by show _ ≤ 360; omega⟩ rfl (Nat.le_of_ble_eq_true rfl) dL_limit_202 (fun w41 r41 H locs hΦ a41 hP hD hS => ?_)
      obtain ⟨o41, rfl⟩ := hΦ
      replace a41 := a41.trans a40
      replace o41 : OB kk (B + 60 + 60) σD3 hq w41 := by rw [hD0]; exact o41
      refine top_eq (y := (nI (σC3.2.1 - 1))) (rfl) ?_
      refine k_goI (k_runS (rest := []) (As := [.int (nI (σC3.2.1 - 1))]) X.1 X.2.1 X.2.2.1 X.2.2.2.1 X.2.2.2.2.1 X.2.2.2.2.2.1 hP hD hS X.2.2.2.2.2.2.1 X.2.2.2.2.2.2.2.1 hl.1 (c_L_thrown l G kk (nI (σC3.2.1 - 1))) sl_L_190 ⟨Nat.le_of_ble_eq_true rfl, Nat.le_of_ble_eq_true rfl, rfl, rfl⟩ [] rfl rfl ⟨by show _ ≤ 60; omega, by show _ ≤ 360; omega⟩ rfl (Nat.le_of_ble_eq_true rfl) dL_limit_205) hP hD hS X.2.2.2.2.2.2.1 [] rfl rfl (fun H locs hP hD hS => ?_)
      replace hP : va_P G vwCl (w39 ++ w41) H := hP
      replace hD : va_D A (w39 ++ w41) := hD
      refine top_eq (y := 0) (thrown_n (by omega)) ?_
      refine lv_if_ne (tgt := 228) X.1 X.2.1 dL_limit_208 (by decide) (fun c_208 => absurd (by decide) c_208) (fun c_208 => ?_)
      refine lv_aload_n X.1 X.2.1 dL_limit_211 rfl (lv_at hl 5 rfl) ?_
      refine lv_iconst (v := 2) X.1 X.2.1 dL_limit_212 (by decide) ?_
      refine lv_iconst (v := 4) X.1 X.2.1 dL_limit_213 (by decide) ?_
      refine lv_iconst (v := 0) X.1 X.2.1 dL_limit_214 (by decide) ?_
      refine lv_iconst (v := 0) X.1 X.2.1 dL_limit_215 (by decide) ?_
      refine kGL (rest := []) (As := [.ref ho, .int 2, .int 4, .int 0, .int 0]) X hP hD hS hl.1 o39.len (q_about l hst G kk (by omega) o39 (4 : Int32) 0 0 ) sl_L_138 ⟨Nat.le_of_ble_eq_true rfl, Nat.le_of_ble_eq_true rfl, rfl, rfl⟩ ⟨by show _ ≤ 60; omega, by show _ ≤ 360; omega⟩ rfl (Nat.le_of_ble_eq_true rfl) dL_limit_216 (fun w42 r42 H locs hΦ a42 hP hD hS => ?_)
      obtain ⟨o42, rfl⟩ := hΦ
      replace a42 := a42.trans a39
      refine top_eq (y := (σ.1 3)) ((qa_4 σD3.1).trans (by rw [fD])) ?_
      refine lv_iload X.1 X.2.1 dL_limit_219 (lv_at hl 3 rfl) ?_
      refine lv_icmp_ne (tgt := 228) X.1 X.2.1 dL_limit_221 (by decide) (fun c_221 => absurd (rfl) c_221) (fun c_221 => ?_)
      refine lv_iconst (v := 1) X.1 X.2.1 dL_limit_224 (by decide) ?_
      refine lv_goto (tgt := 229) X.1 X.2.1 dL_limit_225 (by decide) ?_
      refine lv_istore (lv' := [(5, .int 1), (7, .int (nI (100 * (k - 1)))), (6, .int 1), (4, .int (σ.1 3)), (3, .int (nI (100 * k))), (0, .ref ho), (1, .ref hq), (2, .int (nI N))]) X.1 X.2.1 dL_limit_229 hl (by decide) rfl (fun ls hl => ?_)
      refine lv_iinc (v := 2) (lv' := [(6, .int 2), (5, .int 1), (7, .int (nI (100 * (k - 1)))), (4, .int (σ.1 3)), (3, .int (nI (100 * k))), (0, .ref ho), (1, .ref hq), (2, .int (nI N))]) X.1 X.2.1 dL_limit_231 hl (k := 2) rfl rfl (by decide) rfl (fun ls hl => ?_)
      refine lv_goto (tgt := 26) X.1 X.2.1 dL_limit_234 (by decide) ?_
      refine lv_iload X.1 X.2.1 dL_limit_26 (lv_at hl 0 rfl) ?_
      refine lv_iconst (v := 2) X.1 X.2.1 dL_limit_28 (by decide) ?_
      refine lv_icmp_ge (tgt := 237) X.1 X.2.1 dL_limit_29 (by decide) (fun c_29 => ?_) (fun c_29 => absurd (by decide) c_29)
      refine lv_iload X.1 X.2.1 dL_limit_237 (lv_at hl 1 rfl) ?_
      refine W.widen (k := 60) (n := 360) (by omega) (by omega) ?_
      exact FIN _ 1 H locs ls 239 ⟨⟨_, gD, _, _, rfl, OB.mono (by omega) o42, OB.mono (by omega) o41⟩, rfl⟩ (ads_app a42 a41) hP hD hS (fun _ => rfl) dL_limit_239
