set_option maxRecDepth 100000 in
set_option maxHeartbeats 4000000 in
theorem c_act (l : Launch) (hst : l.stackTraces = false) (G : va_G) (kk : Nat → ClassId) {B : Nat} {σ : SG} {h : Nat} {ws : va_W} (hB : B ≤ 80000) (o0 : OB kk B σ h ws) (hm : 1 ≤ mF σ.1) {N : Nat} (hN : N < 2147483648) : CG l yL_act cL_act 5 (some .int) (rmG 9 189 10 60) [.ref h, .int (nI N)] G kk ws 10 60 (QG G kk ws (fun w1 r => OB kk (B + 60) (ACT σ N).2 h w1 ∧ r = (ACT σ N).1)) := by
  have ok := o0.row.1
  have okx := o0.row.2
  have hm6 := ok.1
  have hi : N / 16 % mF σ.1 < mF σ.1 := Nat.mod_lt _ (by omega)
  refine cg2_start (by decide +kernel) (Nat.le_of_ble_eq_true rfl) (Or.inl rfl) ?_
  intro p e s m args below meth c A ls Q X hP hD hS hl FIN
  have X : LM p l e (rmG 9 189 10 60) s m args below meth c cL_act 5 RL G kk A := X
  have hl : lv_has ls 5 [(0, .ref h), (1, .int (nI N))] := hl
  have a0 : ws.map (fun q => q.1) = ws.map (fun q => q.1) := rfl
  refine lv_aload_n X.1 X.2.1 dL_act_0 rfl (lv_at hl 0 rfl) ?_
  refine lv_iconst (v := 2) X.1 X.2.1 dL_act_1 (by decide) ?_
  refine lv_iconst (v := 0) X.1 X.2.1 dL_act_2 (by decide) ?_
  refine lv_iconst (v := 0) X.1 X.2.1 dL_act_3 (by decide) ?_
  refine lv_iconst (v := 0) X.1 X.2.1 dL_act_4 (by decide) ?_
  refine kG1 (rest := []) (As := [.ref h, .int 2, .int 0, .int 0, .int 0]) X hP hD hS hl.1 o0.len (q_about l hst G kk (by omega) o0 0 0 0 ) sl_L_138 ⟨Nat.le_of_ble_eq_true rfl, Nat.le_of_ble_eq_true rfl, rfl, rfl⟩ ⟨by show _ ≤ 10; omega, by show _ ≤ 60; omega⟩ rfl (Nat.le_of_ble_eq_true rfl) dL_act_5 (fun w1 r1 H locs hΦ a1 hP hD hS => ?_)
  obtain ⟨o1, rfl⟩ := hΦ
  replace a1 := a1.trans a0
  refine top_eq (y := (nI (mF σ.1))) (qa_0 ok) ?_
  refine lv_istore_n (lv' := [(2, .int (nI (mF σ.1))), (0, .ref h), (1, .int (nI N))]) X.1 X.2.1 dL_act_8 rfl hl (by decide) rfl (fun ls hl => ?_)
  refine lv_iload_n X.1 X.2.1 dL_act_9 rfl (lv_at hl 2 rfl) ?_
  refine lv_bipush (v := 16) X.1 X.2.1 dL_act_10 (by decide) ?_
  refine lv_idiv X.1 X.2.1 dL_act_12 (by decide) ?_
  refine top_eq (y := (nI (N / 16))) (dv (b := 16) rfl (by decide) (by omega)) ?_
  refine lv_iload_n X.1 X.2.1 dL_act_13 rfl (lv_at hl 0 rfl) ?_
  refine lv_irem X.1 X.2.1 dL_act_14 (ne_c (by rw [t_n (by omega)]; show _ ≠ (0 : Int); omega)) ?_
  refine top_eq (y := (nI ((N / 16) % (mF σ.1)))) (md (b := (mF σ.1)) (t_n (by omega)) (by omega) (by omega)) ?_
  refine lv_istore_n (lv' := [(3, .int (nI ((N / 16) % (mF σ.1)))), (2, .int (nI (mF σ.1))), (0, .ref h), (1, .int (nI N))]) X.1 X.2.1 dL_act_15 rfl hl (by decide) rfl (fun ls hl => ?_)
  refine lv_iload_n X.1 X.2.1 dL_act_16 rfl (lv_at hl 3 rfl) ?_
  refine lv_sipush (v := 480) X.1 X.2.1 dL_act_17 (by decide) ?_
  refine lv_idiv X.1 X.2.1 dL_act_20 (by decide) ?_
  refine top_eq (y := (nI (N / 480))) (dv (b := 480) rfl (by decide) (by omega)) ?_
  refine lv_sipush (v := 300) X.1 X.2.1 dL_act_21 (by decide) ?_
  refine lv_irem X.1 X.2.1 dL_act_24 (by decide) ?_
  refine top_eq (y := (nI ((N / 480) % 300))) (md (b := 300) rfl (by decide) (by omega)) ?_
  refine lv_sipush (v := 250) X.1 X.2.1 dL_act_25 (by decide) ?_
  refine lv_isub X.1 X.2.1 dL_act_28 ?_
  refine lv_istore (lv' := [(4, .int ((nI ((N / 480) % 300)) - 250)), (3, .int (nI ((N / 16) % (mF σ.1)))), (2, .int (nI (mF σ.1))), (0, .ref h), (1, .int (nI N))]) X.1 X.2.1 dL_act_29 hl (by decide) rfl (fun ls hl => ?_)
  refine lv_iload_n X.1 X.2.1 dL_act_31 rfl (lv_at hl 4 rfl) ?_
  refine lv_bipush (v := 16) X.1 X.2.1 dL_act_32 (by decide) ?_
  refine lv_irem X.1 X.2.1 dL_act_34 (by decide) ?_
  refine top_eq (y := (nI (N % 16))) (md (b := 16) rfl (by decide) (by omega)) ?_
  have J0 : N % 16 = 0 → W p l e (rmG 9 189 10 60) s m args below meth c H locs (0 + 1) (0 + 6) Q (F0 m 92 ls []) := by
    intro hj
    refine lv_iload_n X.1 X.2.1 dL_act_92 rfl (lv_at hl 2 rfl) ?_
    refine lv_iconst (v := 5) X.1 X.2.1 dL_act_93 (by decide) ?_
    refine lv_icmp_ge (tgt := 129) X.1 X.2.1 dL_act_94 (by decide) (fun c_94 => ?_) (fun c_94 => ?_)
    · skip
      have hc : ¬ mF σ.1 < 5 := fun z => by rw [le_i, t_n (by omega)] at c_94; have e5 : (5 : Int32).toInt = 5 := rfl; omega
      refine lv_iconst (v := (-1)) X.1 X.2.1 dL_act_129 (by decide) ?_
      have eA := act_0n (σ := σ) hj hc
      refine W.widen (k := 10) (n := 60) (by omega) (by omega) ?_
      refine FIN _ _ H locs ls 130 ?_ a1 hP hD hS (fun h => by cases h) dL_act_130
      rw [eA]
      exact ⟨o1.mono (by omega), rfl⟩
    · skip
      have hc : mF σ.1 < 5 := by rw [le_i, t_n (by omega)] at c_94; have e5 : (5 : Int32).toInt = 5 := rfl; omega
      refine lv_aload_n X.1 X.2.1 dL_act_97 rfl (lv_at hl 3 rfl) ?_
      refine lv_bipush (v := 6) X.1 X.2.1 dL_act_98 (by decide) ?_
      refine lv_iconst (v := 1) X.1 X.2.1 dL_act_100 (by decide) ?_
      refine lv_iload_n X.1 X.2.1 dL_act_101 rfl (lv_at hl 4 rfl) ?_
      refine lv_bipush (v := 16) X.1 X.2.1 dL_act_102 (by decide) ?_
      refine lv_idiv X.1 X.2.1 dL_act_104 (by decide) ?_
      refine top_eq (y := (nI (N / 16))) (dv (b := 16) rfl (by decide) (by omega)) ?_
      refine lv_bipush (v := 30) X.1 X.2.1 dL_act_105 (by decide) ?_
      refine lv_irem X.1 X.2.1 dL_act_107 (by decide) ?_
      refine top_eq (y := (nI ((N / 16) % 30))) (md (b := 30) rfl (by decide) (by omega)) ?_
      refine lv_iadd X.1 X.2.1 dL_act_108 ?_
      refine top_eq (y := (nI (1 + ((N / 16) % 30)))) (nI_add 1 ((N / 16) % 30)) ?_
      refine lv_iload X.1 X.2.1 dL_act_109 (lv_at hl 0 rfl) ?_
      refine lv_iload X.1 X.2.1 dL_act_111 (lv_at hl 0 rfl) ?_
      refine lv_iconst (v := 1) X.1 X.2.1 dL_act_113 (by decide) ?_
      refine lv_iadd X.1 X.2.1 dL_act_114 ?_
      refine lv_iload_n X.1 X.2.1 dL_act_115 rfl (lv_at hl 4 rfl) ?_
      refine lv_ldc (v := 144000) X.1 X.2.1 X.2.2.2.1 (X.2.2.2.2.1 _ kc_L_162) dL_act_116 ?_
      refine lv_idiv X.1 X.2.1 dL_act_118 (by decide) ?_
      refine top_eq (y := (nI (N / 144000))) (dv (b := 144000) rfl (by decide) (by omega)) ?_
      refine lv_bipush (v := 50) X.1 X.2.1 dL_act_119 (by decide) ?_
      refine lv_irem X.1 X.2.1 dL_act_121 (by decide) ?_
      refine top_eq (y := (nI ((N / 144000) % 50))) (md (b := 50) rfl (by decide) (by omega)) ?_
      refine lv_iadd X.1 X.2.1 dL_act_122 ?_
      refine kG1 (rest := []) (As := [.ref h, .int 6, .int (nI (1 + ((N / 16) % 30))), .int ((nI ((N / 480) % 300)) - 250), .int ((((nI ((N / 480) % 300)) - 250) + 1) + (nI ((N / 144000) % 50)))]) X hP hD hS hl.1 o1.len (q_add l hst G kk (by omega) o1 (nI (1 + ((N / 16) % 30))) ((nI ((N / 480) % 300)) - 250) ((((nI ((N / 480) % 300)) - 250) + 1) + (nI ((N / 144000) % 50)))  (by omega) (ad_load N) (⟨(ad_wish N).1, (ad_wish N).2.1⟩) (⟨(ad_wish N).2.2.1, (ad_wish N).2.2.2⟩)) sl_L_138 ⟨Nat.le_of_ble_eq_true rfl, Nat.le_of_ble_eq_true rfl, rfl, rfl⟩ ⟨by show _ ≤ 10; omega, by show _ ≤ 60; omega⟩ rfl (Nat.le_of_ble_eq_true rfl) dL_act_123 (fun w2 r2 H locs hΦ a2 hP hD hS => ?_)
      obtain ⟨o2, rfl⟩ := hΦ
      replace a2 := a2.trans a1
      refine lv_goto (tgt := 130) X.1 X.2.1 dL_act_126 (by decide) ?_
      have eA := act_0 (σ := σ) hj hc
      refine W.widen (k := 10) (n := 60) (by omega) (by omega) ?_
      refine FIN _ _ H locs ls 130 ?_ a2 hP hD hS (fun h => by cases h) dL_act_130
      rw [eA]
      exact ⟨o2.mono (by omega), rfl⟩
  have J1 : (1 ≤ N % 16 ∧ N % 16 < 4) → W p l e (rmG 9 189 10 60) s m args below meth c H locs (0 + 1) (0 + 6) Q (F0 m 131 ls []) := by
    intro hj
    refine lv_aload_n X.1 X.2.1 dL_act_131 rfl (lv_at hl 3 rfl) ?_
    refine lv_iload_n X.1 X.2.1 dL_act_132 rfl (lv_at hl 1 rfl) ?_
    refine lv_iload_n X.1 X.2.1 dL_act_133 rfl (lv_at hl 4 rfl) ?_
    refine lv_bipush (v := 96) X.1 X.2.1 dL_act_134 (by decide) ?_
    refine lv_idiv X.1 X.2.1 dL_act_136 (by decide) ?_
    refine top_eq (y := (nI (N / 96))) (dv (b := 96) rfl (by decide) (by omega)) ?_
    refine lv_iconst (v := 3) X.1 X.2.1 dL_act_137 (by decide) ?_
    refine lv_irem X.1 X.2.1 dL_act_138 (by decide) ?_
    refine top_eq (y := (nI ((N / 96) % 3))) (md (b := 3) rfl (by decide) (by omega)) ?_
    refine lv_if_le (tgt := 146) X.1 X.2.1 dL_act_139 (by decide) (fun c_139 => ?_) (fun c_139 => ?_)
    · skip
      have hv : N / 96 % 3 = 0 := by rw [le_i, t_n (by omega)] at c_139; have e0 : (0 : Int32).toInt = 0 := rfl; omega
      refine lv_iconst (v := 0) X.1 X.2.1 dL_act_146 (by decide) ?_
      refine kH1 (rest := []) (As := [.ref h, .int (nI ((N / 16) % (mF σ.1))), .int 0]) X hP hD hS hl.1 o1.len (a_door l hst G kk (by omega) o1 (nI ((N / 16) % (mF σ.1))) 0  (Or.inl rfl) (ir_yes ok hi)) sh_L_142 ⟨Nat.le_of_ble_eq_true rfl, Nat.le_of_ble_eq_true rfl, rfl, rfl⟩ ⟨by show _ ≤ 10; omega, by show _ ≤ 60; omega⟩ rfl (Nat.le_of_ble_eq_true rfl) dL_act_147 (fun w3 r3 H locs hΦ a3 hP hD hS => ?_)
      obtain ⟨o3, rfl⟩ := hΦ
      replace a3 := a3.trans a1
      have eA := act_d0 (σ := σ) hj hv
      refine W.widen (k := 10) (n := 60) (by omega) (by omega) ?_
      refine FIN _ _ H locs ls 150 ?_ a3 hP hD hS (fun h => by cases h) dL_act_150
      rw [eA]
      exact ⟨o3.mono (by omega), rfl⟩
    · skip
      have hv : ¬ N / 96 % 3 = 0 := fun z => by rw [le_i, t_n (by omega)] at c_139; have e0 : (0 : Int32).toInt = 0 := rfl; omega
      refine lv_iconst (v := 1) X.1 X.2.1 dL_act_142 (by decide) ?_
      refine lv_goto (tgt := 147) X.1 X.2.1 dL_act_143 (by decide) ?_
      refine kH1 (rest := []) (As := [.ref h, .int (nI ((N / 16) % (mF σ.1))), .int 1]) X hP hD hS hl.1 o1.len (a_door l hst G kk (by omega) o1 (nI ((N / 16) % (mF σ.1))) 1  (Or.inr rfl) (ir_yes ok hi)) sh_L_142 ⟨Nat.le_of_ble_eq_true rfl, Nat.le_of_ble_eq_true rfl, rfl, rfl⟩ ⟨by show _ ≤ 10; omega, by show _ ≤ 60; omega⟩ rfl (Nat.le_of_ble_eq_true rfl) dL_act_147 (fun w4 r4 H locs hΦ a4 hP hD hS => ?_)
      obtain ⟨o4, rfl⟩ := hΦ
      replace a4 := a4.trans a1
      have eA := act_d1 (σ := σ) hj hv
      refine W.widen (k := 10) (n := 60) (by omega) (by omega) ?_
      refine FIN _ _ H locs ls 150 ?_ a4 hP hD hS (fun h => by cases h) dL_act_150
      rw [eA]
      exact ⟨o4.mono (by omega), rfl⟩
  have J4 : (4 ≤ N % 16 ∧ N % 16 < 6) → W p l e (rmG 9 189 10 60) s m args below meth c H locs (0 + 1) (0 + 6) Q (F0 m 151 ls []) := by
    intro hj
    refine lv_aload_n X.1 X.2.1 dL_act_151 rfl (lv_at hl 3 rfl) ?_
    refine lv_bipush (v := 7) X.1 X.2.1 dL_act_152 (by decide) ?_
    refine lv_iload_n X.1 X.2.1 dL_act_154 rfl (lv_at hl 1 rfl) ?_
    refine lv_aload_n X.1 X.2.1 dL_act_155 rfl (lv_at hl 3 rfl) ?_
    refine lv_iconst (v := 3) X.1 X.2.1 dL_act_156 (by decide) ?_
    refine lv_iload_n X.1 X.2.1 dL_act_157 rfl (lv_at hl 1 rfl) ?_
    refine lv_iconst (v := 1) X.1 X.2.1 dL_act_158 (by decide) ?_
    refine lv_iconst (v := 0) X.1 X.2.1 dL_act_159 (by decide) ?_
    refine kG1 (rest := [.int (nI ((N / 16) % (mF σ.1))), .int 7, .ref h]) (As := [.ref h, .int 3, .int (nI ((N / 16) % (mF σ.1))), .int 1, .int 0]) X hP hD hS hl.1 o1.len (q_room l hst G kk (by omega) o1 (nI ((N / 16) % (mF σ.1))) 1 0 ) sl_L_138 ⟨Nat.le_of_ble_eq_true rfl, Nat.le_of_ble_eq_true rfl, rfl, rfl⟩ ⟨by show _ ≤ 10; omega, by show _ ≤ 60; omega⟩ rfl (Nat.le_of_ble_eq_true rfl) dL_act_160 (fun w5 r5 H locs hΦ a5 hP hD hS => ?_)
    obtain ⟨o5, rfl⟩ := hΦ
    replace a5 := a5.trans a1
    refine top_eq (y := (σ.1 (16 + 8 * (N / 16 % mF σ.1) + 1))) (qr_at ok (w := 1) hi (by decide)) ?_
    refine lv_iload_n X.1 X.2.1 dL_act_163 rfl (lv_at hl 4 rfl) ?_
    refine lv_bipush (v := 96) X.1 X.2.1 dL_act_164 (by decide) ?_
    refine lv_idiv X.1 X.2.1 dL_act_166 (by decide) ?_
    refine top_eq (y := (nI (N / 96))) (dv (b := 96) rfl (by decide) (by omega)) ?_
    refine lv_bipush (v := 100) X.1 X.2.1 dL_act_167 (by decide) ?_
    refine lv_irem X.1 X.2.1 dL_act_169 (by decide) ?_
    refine top_eq (y := (nI ((N / 96) % 100))) (md (b := 100) rfl (by decide) (by omega)) ?_
    refine lv_iadd X.1 X.2.1 dL_act_170 ?_
    refine lv_bipush (v := 30) X.1 X.2.1 dL_act_171 (by decide) ?_
    refine lv_isub X.1 X.2.1 dL_act_173 ?_
    refine lv_iconst (v := 0) X.1 X.2.1 dL_act_174 (by decide) ?_
    refine kG1 (rest := []) (As := [.ref h, .int 7, .int (nI ((N / 16) % (mF σ.1))), .int (((σ.1 (16 + 8 * (N / 16 % mF σ.1) + 1)) + (nI ((N / 96) % 100))) - 30), .int 0]) X hP hD hS hl.1 o5.len (q_goods l hst G kk (by omega) o5 (nI ((N / 16) % (mF σ.1))) (((σ.1 (16 + 8 * (N / 16 % mF σ.1) + 1)) + (nI ((N / 96) % 100))) - 30) 0 (ir_yes ok hi) (ad_goods ok okx hi N)) sl_L_138 ⟨Nat.le_of_ble_eq_true rfl, Nat.le_of_ble_eq_true rfl, rfl, rfl⟩ ⟨by show _ ≤ 10; omega, by show _ ≤ 60; omega⟩ rfl (Nat.le_of_ble_eq_true rfl) dL_act_175 (fun w6 r6 H locs hΦ a6 hP hD hS => ?_)
    obtain ⟨o6, rfl⟩ := hΦ
    replace a6 := a6.trans a5
    have eA := act_g (σ := σ) hj
    refine W.widen (k := 10) (n := 60) (by omega) (by omega) ?_
    refine FIN _ _ H locs ls 178 ?_ a6 hP hD hS (fun h => by cases h) dL_act_178
    rw [eA]
    exact ⟨o6.mono (by omega), rfl⟩
  have J6 : (6 ≤ N % 16 ∧ N % 16 < 8) → W p l e (rmG 9 189 10 60) s m args below meth c H locs (0 + 1) (0 + 6) Q (F0 m 179 ls []) := by
    intro hj
    refine lv_aload_n X.1 X.2.1 dL_act_179 rfl (lv_at hl 3 rfl) ?_
    refine lv_bipush (v := 9) X.1 X.2.1 dL_act_180 (by decide) ?_
    refine lv_iload_n X.1 X.2.1 dL_act_182 rfl (lv_at hl 4 rfl) ?_
    refine lv_bipush (v := 16) X.1 X.2.1 dL_act_183 (by decide) ?_
    refine lv_idiv X.1 X.2.1 dL_act_185 (by decide) ?_
    refine top_eq (y := (nI (N / 16))) (dv (b := 16) rfl (by decide) (by omega)) ?_
    refine lv_bipush (v := 6) X.1 X.2.1 dL_act_186 (by decide) ?_
    refine lv_irem X.1 X.2.1 dL_act_188 (by decide) ?_
    refine top_eq (y := (nI ((N / 16) % 6))) (md (b := 6) rfl (by decide) (by omega)) ?_
    refine lv_iload_n X.1 X.2.1 dL_act_189 rfl (lv_at hl 4 rfl) ?_
    refine lv_bipush (v := 96) X.1 X.2.1 dL_act_190 (by decide) ?_
    refine lv_idiv X.1 X.2.1 dL_act_192 (by decide) ?_
    refine top_eq (y := (nI (N / 96))) (dv (b := 96) rfl (by decide) (by omega)) ?_
    refine lv_iload_n X.1 X.2.1 dL_act_193 rfl (lv_at hl 4 rfl) ?_
    refine lv_bipush (v := 16) X.1 X.2.1 dL_act_194 (by decide) ?_
    refine lv_idiv X.1 X.2.1 dL_act_196 (by decide) ?_
    refine top_eq (y := (nI (N / 16))) (dv (b := 16) rfl (by decide) (by omega)) ?_
    refine lv_bipush (v := 6) X.1 X.2.1 dL_act_197 (by decide) ?_
    refine lv_irem X.1 X.2.1 dL_act_199 (by decide) ?_
    refine top_eq (y := (nI ((N / 16) % 6))) (md (b := 6) rfl (by decide) (by omega)) ?_
    refine lv_if_ne (tgt := 209) X.1 X.2.1 dL_act_200 (by decide) (fun c_200 => ?_) (fun c_200 => ?_)
    · skip
      have h6 : ¬ N / 16 % 6 = 0 := fun z => c_200 (by rw [z]; rfl)
      have hW : N / 96 % 40 = N / 96 % (if N / 16 % 6 = 0 then 1200 else 40) := by rw [if_neg h6]
      refine lv_bipush (v := 40) X.1 X.2.1 dL_act_209 (by decide) ?_
      refine lv_irem X.1 X.2.1 dL_act_211 (by decide) ?_
      refine top_eq (y := (nI ((N / 96) % 40))) (md (b := 40) rfl (by decide) (by omega)) ?_
      refine lv_iconst (v := 0) X.1 X.2.1 dL_act_212 (by decide) ?_
      rcases Decidable.em (sX8_isSetting (nI (N / 16 % 6)) (nI (N / 96 % 40)) = 0) with hs | hs
      · skip
        refine kG1 (rest := []) (As := [.ref h, .int 9, .int (nI ((N / 16) % 6)), .int (nI ((N / 96) % 40)), .int 0]) X hP hD hS hl.1 o1.len (q_set_no l hst G kk (by omega) o1 (nI ((N / 16) % 6)) (nI ((N / 96) % 40)) 0 (hs)) sl_L_138 ⟨Nat.le_of_ble_eq_true rfl, Nat.le_of_ble_eq_true rfl, rfl, rfl⟩ ⟨by show _ ≤ 10; omega, by show _ ≤ 60; omega⟩ rfl (Nat.le_of_ble_eq_true rfl) dL_act_213 (fun w7 r7 H locs hΦ a7 hP hD hS => ?_)
        obtain ⟨o7, rfl⟩ := hΦ
        replace a7 := a7.trans a1
        have eA := act_sn (σ := σ) hj _ hW hs
        refine W.widen (k := 10) (n := 60) (by omega) (by omega) ?_
        refine FIN _ _ H locs ls 216 ?_ a7 hP hD hS (fun h => by cases h) dL_act_216
        rw [eA]
        exact ⟨o7.mono (by omega), rfl⟩
      · skip
        refine kG1 (rest := []) (As := [.ref h, .int 9, .int (nI ((N / 16) % 6)), .int (nI ((N / 96) % 40)), .int 0]) X hP hD hS hl.1 o1.len (q_set l hst G kk (by omega) o1 (nI ((N / 16) % 6)) (nI ((N / 96) % 40)) 0 (hs)) sl_L_138 ⟨Nat.le_of_ble_eq_true rfl, Nat.le_of_ble_eq_true rfl, rfl, rfl⟩ ⟨by show _ ≤ 10; omega, by show _ ≤ 60; omega⟩ rfl (Nat.le_of_ble_eq_true rfl) dL_act_213 (fun w8 r8 H locs hΦ a8 hP hD hS => ?_)
        obtain ⟨o8, rfl⟩ := hΦ
        replace a8 := a8.trans a1
        have eA := act_s (σ := σ) hj _ hW hs
        refine W.widen (k := 10) (n := 60) (by omega) (by omega) ?_
        refine FIN _ _ H locs ls 216 ?_ a8 hP hD hS (fun h => by cases h) dL_act_216
        rw [eA]
        exact ⟨o8.mono (by omega), rfl⟩
    · skip
      have h6 : N / 16 % 6 = 0 := by have h9 := congrArg Int32.toInt c_200; rw [t_n (by omega)] at h9; have e0 : (0 : Int32).toInt = 0 := rfl; omega
      have hW : N / 96 % 1200 = N / 96 % (if N / 16 % 6 = 0 then 1200 else 40) := by rw [if_pos h6]
      refine lv_sipush (v := 1200) X.1 X.2.1 dL_act_203 (by decide) ?_
      refine lv_goto (tgt := 211) X.1 X.2.1 dL_act_206 (by decide) ?_
      refine lv_irem X.1 X.2.1 dL_act_211 (by decide) ?_
      refine top_eq (y := (nI ((N / 96) % 1200))) (md (b := 1200) rfl (by decide) (by omega)) ?_
      refine lv_iconst (v := 0) X.1 X.2.1 dL_act_212 (by decide) ?_
      rcases Decidable.em (sX8_isSetting (nI (N / 16 % 6)) (nI (N / 96 % 1200)) = 0) with hs | hs
      · skip
        refine kG1 (rest := []) (As := [.ref h, .int 9, .int (nI ((N / 16) % 6)), .int (nI ((N / 96) % 1200)), .int 0]) X hP hD hS hl.1 o1.len (q_set_no l hst G kk (by omega) o1 (nI ((N / 16) % 6)) (nI ((N / 96) % 1200)) 0 (hs)) sl_L_138 ⟨Nat.le_of_ble_eq_true rfl, Nat.le_of_ble_eq_true rfl, rfl, rfl⟩ ⟨by show _ ≤ 10; omega, by show _ ≤ 60; omega⟩ rfl (Nat.le_of_ble_eq_true rfl) dL_act_213 (fun w9 r9 H locs hΦ a9 hP hD hS => ?_)
        obtain ⟨o9, rfl⟩ := hΦ
        replace a9 := a9.trans a1
        have eA := act_sn (σ := σ) hj _ hW hs
        refine W.widen (k := 10) (n := 60) (by omega) (by omega) ?_
        refine FIN _ _ H locs ls 216 ?_ a9 hP hD hS (fun h => by cases h) dL_act_216
        rw [eA]
        exact ⟨o9.mono (by omega), rfl⟩
      · skip
        refine kG1 (rest := []) (As := [.ref h, .int 9, .int (nI ((N / 16) % 6)), .int (nI ((N / 96) % 1200)), .int 0]) X hP hD hS hl.1 o1.len (q_set l hst G kk (by omega) o1 (nI ((N / 16) % 6)) (nI ((N / 96) % 1200)) 0 (hs)) sl_L_138 ⟨Nat.le_of_ble_eq_true rfl, Nat.le_of_ble_eq_true rfl, rfl, rfl⟩ ⟨by show _ ≤ 10; omega, by show _ ≤ 60; omega⟩ rfl (Nat.le_of_ble_eq_true rfl) dL_act_213 (fun w10 r10 H locs hΦ a10 hP hD hS => ?_)
        obtain ⟨o10, rfl⟩ := hΦ
        replace a10 := a10.trans a1
        have eA := act_s (σ := σ) hj _ hW hs
        refine W.widen (k := 10) (n := 60) (by omega) (by omega) ?_
        refine FIN _ _ H locs ls 216 ?_ a10 hP hD hS (fun h => by cases h) dL_act_216
        rw [eA]
        exact ⟨o10.mono (by omega), rfl⟩
  have J8 : N % 16 = 8 → W p l e (rmG 9 189 10 60) s m args below meth c H locs (0 + 1) (0 + 6) Q (F0 m 217 ls []) := by
    intro hj
    refine lv_iload_n X.1 X.2.1 dL_act_217 rfl (lv_at hl 2 rfl) ?_
    refine lv_iconst (v := 2) X.1 X.2.1 dL_act_218 (by decide) ?_
    refine lv_icmp_ge (tgt := 226) X.1 X.2.1 dL_act_219 (by decide) (fun c_219 => ?_) (fun c_219 => ?_)
    · skip
      have hc2 : ¬ mF σ.1 < 2 := fun z => by rw [le_i, t_n (by omega)] at c_219; have e2 : (2 : Int32).toInt = 2 := rfl; omega
      refine lv_aload_n X.1 X.2.1 dL_act_226 rfl (lv_at hl 3 rfl) ?_
      refine lv_bipush (v := 10) X.1 X.2.1 dL_act_227 (by decide) ?_
      refine lv_iconst (v := 0) X.1 X.2.1 dL_act_229 (by decide) ?_
      refine lv_iconst (v := 0) X.1 X.2.1 dL_act_230 (by decide) ?_
      refine lv_iconst (v := 0) X.1 X.2.1 dL_act_231 (by decide) ?_
      rcases Decidable.em (σ.2.1 = 0) with hc | hc
      · skip
        refine kG1 (rest := []) (As := [.ref h, .int 10, .int 0, .int 0, .int 0]) X hP hD hS hl.1 o1.len (q_undo_no l hst G kk (by omega) o1  0 0 0 (hc)) sl_L_138 ⟨Nat.le_of_ble_eq_true rfl, Nat.le_of_ble_eq_true rfl, rfl, rfl⟩ ⟨by show _ ≤ 10; omega, by show _ ≤ 60; omega⟩ rfl (Nat.le_of_ble_eq_true rfl) dL_act_232 (fun w11 r11 H locs hΦ a11 hP hD hS => ?_)
        obtain ⟨o11, rfl⟩ := hΦ
        replace a11 := a11.trans a1
        have eA := act_u0 (σ := σ) hj hc2 hc
        refine W.widen (k := 10) (n := 60) (by omega) (by omega) ?_
        refine FIN _ _ H locs ls 235 ?_ a11 hP hD hS (fun h => by cases h) dL_act_235
        rw [eA]
        exact ⟨o11.mono (by omega), rfl⟩
      · skip
        refine kG1 (rest := []) (As := [.ref h, .int 10, .int 0, .int 0, .int 0]) X hP hD hS hl.1 o1.len (q_undo l hst G kk (by omega) o1  0 0 0 (hc)) sl_L_138 ⟨Nat.le_of_ble_eq_true rfl, Nat.le_of_ble_eq_true rfl, rfl, rfl⟩ ⟨by show _ ≤ 10; omega, by show _ ≤ 60; omega⟩ rfl (Nat.le_of_ble_eq_true rfl) dL_act_232 (fun w12 r12 H locs hΦ a12 hP hD hS => ?_)
        obtain ⟨o12, rfl⟩ := hΦ
        replace a12 := a12.trans a1
        have eA := act_u (σ := σ) hj hc2 hc
        refine W.widen (k := 10) (n := 60) (by omega) (by omega) ?_
        refine FIN _ _ H locs ls 235 ?_ a12 hP hD hS (fun h => by cases h) dL_act_235
        rw [eA]
        exact ⟨o12.mono (by omega), rfl⟩
    · skip
      have hc2 : mF σ.1 < 2 := by rw [le_i, t_n (by omega)] at c_219; have e2 : (2 : Int32).toInt = 2 := rfl; omega
      refine lv_iconst (v := (-1)) X.1 X.2.1 dL_act_222 (by decide) ?_
      refine lv_goto (tgt := 235) X.1 X.2.1 dL_act_223 (by decide) ?_
      have eA := act_un (σ := σ) hj hc2
      refine W.widen (k := 10) (n := 60) (by omega) (by omega) ?_
      refine FIN _ _ H locs ls 235 ?_ a1 hP hD hS (fun h => by cases h) dL_act_235
      rw [eA]
      exact ⟨o1.mono (by omega), rfl⟩
  have J9 : N % 16 = 9 → W p l e (rmG 9 189 10 60) s m args below meth c H locs (0 + 1) (0 + 6) Q (F0 m 236 ls []) := by
    intro hj
    refine lv_aload_n X.1 X.2.1 dL_act_236 rfl (lv_at hl 3 rfl) ?_
    refine lv_bipush (v := 14) X.1 X.2.1 dL_act_237 (by decide) ?_
    refine lv_iload_n X.1 X.2.1 dL_act_239 rfl (lv_at hl 4 rfl) ?_
    refine lv_bipush (v := 16) X.1 X.2.1 dL_act_240 (by decide) ?_
    refine lv_idiv X.1 X.2.1 dL_act_242 (by decide) ?_
    refine top_eq (y := (nI (N / 16))) (dv (b := 16) rfl (by decide) (by omega)) ?_
    refine lv_iconst (v := 2) X.1 X.2.1 dL_act_243 (by decide) ?_
    refine lv_irem X.1 X.2.1 dL_act_244 (by decide) ?_
    refine top_eq (y := (nI ((N / 16) % 2))) (md (b := 2) rfl (by decide) (by omega)) ?_
    rcases (show N / 16 % 2 = 0 ∨ N / 16 % 2 = 1 by omega) with hs | hs
    · skip
      refine top_eq (y := 0) (by rw [hs]; rfl) ?_
      refine lv_iconst (v := 0) X.1 X.2.1 dL_act_245 (by decide) ?_
      refine lv_iconst (v := 0) X.1 X.2.1 dL_act_246 (by decide) ?_
      refine kG1 (rest := []) (As := [.ref h, .int 14, .int 0, .int 0, .int 0]) X hP hD hS hl.1 o1.len (q_save_0 l hst G kk (by omega) o1  0 0 ) sl_L_138 ⟨Nat.le_of_ble_eq_true rfl, Nat.le_of_ble_eq_true rfl, rfl, rfl⟩ ⟨by show _ ≤ 10; omega, by show _ ≤ 60; omega⟩ rfl (Nat.le_of_ble_eq_true rfl) dL_act_247 (fun w13 r13 H locs hΦ a13 hP hD hS => ?_)
      obtain ⟨o13, rfl⟩ := hΦ
      replace a13 := a13.trans a1
      have eA := act_k0 (σ := σ) hj hs
      refine W.widen (k := 10) (n := 60) (by omega) (by omega) ?_
      refine FIN _ _ H locs ls 250 ?_ a13 hP hD hS (fun h => by cases h) dL_act_250
      rw [eA]
      exact ⟨o13.mono (by omega), rfl⟩
    · skip
      refine top_eq (y := 1) (by rw [hs]; rfl) ?_
      refine lv_iconst (v := 0) X.1 X.2.1 dL_act_245 (by decide) ?_
      refine lv_iconst (v := 0) X.1 X.2.1 dL_act_246 (by decide) ?_
      refine kG1 (rest := []) (As := [.ref h, .int 14, .int 1, .int 0, .int 0]) X hP hD hS hl.1 o1.len (q_save_1 l hst G kk (by omega) o1  0 0 ) sl_L_138 ⟨Nat.le_of_ble_eq_true rfl, Nat.le_of_ble_eq_true rfl, rfl, rfl⟩ ⟨by show _ ≤ 10; omega, by show _ ≤ 60; omega⟩ rfl (Nat.le_of_ble_eq_true rfl) dL_act_247 (fun w14 r14 H locs hΦ a14 hP hD hS => ?_)
      obtain ⟨o14, rfl⟩ := hΦ
      replace a14 := a14.trans a1
      have eA := act_k1 (σ := σ) hj (by omega)
      refine W.widen (k := 10) (n := 60) (by omega) (by omega) ?_
      refine FIN _ _ H locs ls 250 ?_ a14 hP hD hS (fun h => by cases h) dL_act_250
      rw [eA]
      exact ⟨o14.mono (by omega), rfl⟩
  have J10 : N % 16 = 10 → W p l e (rmG 9 189 10 60) s m args below meth c H locs (0 + 1) (0 + 6) Q (F0 m 251 ls []) := by
    intro hj
    refine lv_aload_n X.1 X.2.1 dL_act_251 rfl (lv_at hl 3 rfl) ?_
    refine lv_bipush (v := 15) X.1 X.2.1 dL_act_252 (by decide) ?_
    refine lv_iload_n X.1 X.2.1 dL_act_254 rfl (lv_at hl 4 rfl) ?_
    refine lv_bipush (v := 16) X.1 X.2.1 dL_act_255 (by decide) ?_
    refine lv_idiv X.1 X.2.1 dL_act_257 (by decide) ?_
    refine top_eq (y := (nI (N / 16))) (dv (b := 16) rfl (by decide) (by omega)) ?_
    refine lv_iconst (v := 2) X.1 X.2.1 dL_act_258 (by decide) ?_
    refine lv_irem X.1 X.2.1 dL_act_259 (by decide) ?_
    refine top_eq (y := (nI ((N / 16) % 2))) (md (b := 2) rfl (by decide) (by omega)) ?_
    rcases (show N / 16 % 2 = 0 ∨ N / 16 % 2 = 1 by omega) with hs | hs
    · skip
      refine top_eq (y := 0) (by rw [hs]; rfl) ?_
      rcases (show σ.2.2.2.1 = none ∨ ∃ fs, σ.2.2.2.1 = some fs by cases σ.2.2.2.1 with | none => exact Or.inl rfl | some fs => exact Or.inr ⟨fs, rfl⟩) with hk | ⟨fs, hk⟩
      · skip
        refine lv_iconst (v := 0) X.1 X.2.1 dL_act_260 (by decide) ?_
        refine lv_iconst (v := 0) X.1 X.2.1 dL_act_261 (by decide) ?_
        refine kG1 (rest := []) (As := [.ref h, .int 15, .int 0, .int 0, .int 0]) X hP hD hS hl.1 o1.len (q_back_n0 l hst G kk (by omega) o1  0 0 (hk)) sl_L_138 ⟨Nat.le_of_ble_eq_true rfl, Nat.le_of_ble_eq_true rfl, rfl, rfl⟩ ⟨by show _ ≤ 10; omega, by show _ ≤ 60; omega⟩ rfl (Nat.le_of_ble_eq_true rfl) dL_act_262 (fun w15 r15 H locs hΦ a15 hP hD hS => ?_)
        obtain ⟨o15, rfl⟩ := hΦ
        replace a15 := a15.trans a1
        have eA := act_b0n (σ := σ) hj hs hk
        refine W.widen (k := 10) (n := 60) (by omega) (by omega) ?_
        refine FIN _ _ H locs ls 265 ?_ a15 hP hD hS (fun h => by cases h) dL_act_265
        rw [eA]
        exact ⟨o15.mono (by omega), rfl⟩
      · skip
        refine lv_iconst (v := 0) X.1 X.2.1 dL_act_260 (by decide) ?_
        refine lv_iconst (v := 0) X.1 X.2.1 dL_act_261 (by decide) ?_
        refine kG1 (rest := []) (As := [.ref h, .int 15, .int 0, .int 0, .int 0]) X hP hD hS hl.1 o1.len (q_back_0 l hst G kk (by omega) o1  0 0 (hk)) sl_L_138 ⟨Nat.le_of_ble_eq_true rfl, Nat.le_of_ble_eq_true rfl, rfl, rfl⟩ ⟨by show _ ≤ 10; omega, by show _ ≤ 60; omega⟩ rfl (Nat.le_of_ble_eq_true rfl) dL_act_262 (fun w16 r16 H locs hΦ a16 hP hD hS => ?_)
        obtain ⟨o16, rfl⟩ := hΦ
        replace a16 := a16.trans a1
        have eA := act_b0 (σ := σ) hj hs hk
        refine W.widen (k := 10) (n := 60) (by omega) (by omega) ?_
        refine FIN _ _ H locs ls 265 ?_ a16 hP hD hS (fun h => by cases h) dL_act_265
        rw [eA]
        exact ⟨o16.mono (by omega), rfl⟩
    · skip
      refine top_eq (y := 1) (by rw [hs]; rfl) ?_
      rcases (show σ.2.2.2.2 = none ∨ ∃ fs, σ.2.2.2.2 = some fs by cases σ.2.2.2.2 with | none => exact Or.inl rfl | some fs => exact Or.inr ⟨fs, rfl⟩) with hk | ⟨fs, hk⟩
      · skip
        refine lv_iconst (v := 0) X.1 X.2.1 dL_act_260 (by decide) ?_
        refine lv_iconst (v := 0) X.1 X.2.1 dL_act_261 (by decide) ?_
        refine kG1 (rest := []) (As := [.ref h, .int 15, .int 1, .int 0, .int 0]) X hP hD hS hl.1 o1.len (q_back_n1 l hst G kk (by omega) o1  0 0 (hk)) sl_L_138 ⟨Nat.le_of_ble_eq_true rfl, Nat.le_of_ble_eq_true rfl, rfl, rfl⟩ ⟨by show _ ≤ 10; omega, by show _ ≤ 60; omega⟩ rfl (Nat.le_of_ble_eq_true rfl) dL_act_262 (fun w17 r17 H locs hΦ a17 hP hD hS => ?_)
        obtain ⟨o17, rfl⟩ := hΦ
        replace a17 := a17.trans a1
        have eA := act_b1n (σ := σ) hj (by omega) hk
        refine W.widen (k := 10) (n := 60) (by omega) (by omega) ?_
        refine FIN _ _ H locs ls 265 ?_ a17 hP hD hS (fun h => by cases h) dL_act_265
        rw [eA]
        exact ⟨o17.mono (by omega), rfl⟩
      · skip
        refine lv_iconst (v := 0) X.1 X.2.1 dL_act_260 (by decide) ?_
        refine lv_iconst (v := 0) X.1 X.2.1 dL_act_261 (by decide) ?_
        refine kG1 (rest := []) (As := [.ref h, .int 15, .int 1, .int 0, .int 0]) X hP hD hS hl.1 o1.len (q_back_1 l hst G kk (by omega) o1  0 0 (hk)) sl_L_138 ⟨Nat.le_of_ble_eq_true rfl, Nat.le_of_ble_eq_true rfl, rfl, rfl⟩ ⟨by show _ ≤ 10; omega, by show _ ≤ 60; omega⟩ rfl (Nat.le_of_ble_eq_true rfl) dL_act_262 (fun w18 r18 H locs hΦ a18 hP hD hS => ?_)
        obtain ⟨o18, rfl⟩ := hΦ
        replace a18 := a18.trans a1
        have eA := act_b1 (σ := σ) hj (by omega) hk
        refine W.widen (k := 10) (n := 60) (by omega) (by omega) ?_
        refine FIN _ _ H locs ls 265 ?_ a18 hP hD hS (fun h => by cases h) dL_act_265
        rw [eA]
        exact ⟨o18.mono (by omega), rfl⟩
  have J11 : 11 ≤ N % 16 → W p l e (rmG 9 189 10 60) s m args below meth c H locs (0 + 1) (0 + 6) Q (F0 m 266 ls []) := by
    intro hj
    refine lv_aload_n X.1 X.2.1 dL_act_266 rfl (lv_at hl 3 rfl) ?_
    refine lv_bipush (v := 8) X.1 X.2.1 dL_act_267 (by decide) ?_
    refine lv_iconst (v := 1) X.1 X.2.1 dL_act_269 (by decide) ?_
    refine lv_iload_n X.1 X.2.1 dL_act_270 rfl (lv_at hl 4 rfl) ?_
    refine lv_bipush (v := 16) X.1 X.2.1 dL_act_271 (by decide) ?_
    refine lv_idiv X.1 X.2.1 dL_act_273 (by decide) ?_
    refine top_eq (y := (nI (N / 16))) (dv (b := 16) rfl (by decide) (by omega)) ?_
    refine lv_bipush (v := 30) X.1 X.2.1 dL_act_274 (by decide) ?_
    refine lv_irem X.1 X.2.1 dL_act_276 (by decide) ?_
    refine top_eq (y := (nI ((N / 16) % 30))) (md (b := 30) rfl (by decide) (by omega)) ?_
    refine lv_iadd X.1 X.2.1 dL_act_277 ?_
    refine top_eq (y := (nI (1 + ((N / 16) % 30)))) (nI_add 1 ((N / 16) % 30)) ?_
    refine lv_iconst (v := 0) X.1 X.2.1 dL_act_278 (by decide) ?_
    refine lv_iconst (v := 0) X.1 X.2.1 dL_act_279 (by decide) ?_
    refine kG1 (rest := []) (As := [.ref h, .int 8, .int (nI (1 + ((N / 16) % 30))), .int 0, .int 0]) X hP hD hS hl.1 o1.len (q_run l hst G kk (by omega) o1 (nI (1 + ((N / 16) % 30))) 0 0 (by rw [t_n (by omega)]; omega)) sl_L_138 ⟨Nat.le_of_ble_eq_true rfl, Nat.le_of_ble_eq_true rfl, rfl, rfl⟩ ⟨by show _ ≤ 10; omega, by show _ ≤ 60; omega⟩ rfl (Nat.le_of_ble_eq_true rfl) dL_act_280 (fun w19 r19 H locs hΦ a19 hP hD hS => ?_)
    obtain ⟨o19, rfl⟩ := hΦ
    replace a19 := a19.trans a1
    have eA := act_r (σ := σ) hj
    refine W.widen (k := 10) (n := 60) (by omega) (by omega) ?_
    refine FIN _ _ H locs ls 283 ?_ a19 hP hD hS (fun h => by cases h) dL_act_283
    rw [eA]
    exact ⟨o19, rfl⟩
  rcases (show N % 16 = 0 ∨ N % 16 = 1 ∨ N % 16 = 2 ∨ N % 16 = 3 ∨ N % 16 = 4 ∨ N % 16 = 5 ∨ N % 16 = 6 ∨ N % 16 = 7 ∨ N % 16 = 8 ∨ N % 16 = 9 ∨ N % 16 = 10 ∨ N % 16 = 11 ∨ N % 16 = 12 ∨ N % 16 = 13 ∨ N % 16 = 14 ∨ N % 16 = 15 by omega) with hj | hj | hj | hj | hj | hj | hj | hj | hj | hj | hj | hj | hj | hj | hj | hj
  · refine top_eq (y := 0) (by rw [hj]; rfl) ?_
    refine lv_tableIn (tgt := 92) X.1 X.2.1 dL_act_35 (by decide) (by decide) rfl (by decide) ?_
    exact J0 hj
  · refine top_eq (y := 1) (by rw [hj]; rfl) ?_
    refine lv_tableIn (tgt := 131) X.1 X.2.1 dL_act_35 (by decide) (by decide) rfl (by decide) ?_
    exact J1 (by omega)
  · refine top_eq (y := 2) (by rw [hj]; rfl) ?_
    refine lv_tableIn (tgt := 131) X.1 X.2.1 dL_act_35 (by decide) (by decide) rfl (by decide) ?_
    exact J1 (by omega)
  · refine top_eq (y := 3) (by rw [hj]; rfl) ?_
    refine lv_tableIn (tgt := 131) X.1 X.2.1 dL_act_35 (by decide) (by decide) rfl (by decide) ?_
    exact J1 (by omega)
  · refine top_eq (y := 4) (by rw [hj]; rfl) ?_
    refine lv_tableIn (tgt := 151) X.1 X.2.1 dL_act_35 (by decide) (by decide) rfl (by decide) ?_
    exact J4 (by omega)
  · refine top_eq (y := 5) (by rw [hj]; rfl) ?_
    refine lv_tableIn (tgt := 151) X.1 X.2.1 dL_act_35 (by decide) (by decide) rfl (by decide) ?_
    exact J4 (by omega)
  · refine top_eq (y := 6) (by rw [hj]; rfl) ?_
    refine lv_tableIn (tgt := 179) X.1 X.2.1 dL_act_35 (by decide) (by decide) rfl (by decide) ?_
    exact J6 (by omega)
  · refine top_eq (y := 7) (by rw [hj]; rfl) ?_
    refine lv_tableIn (tgt := 179) X.1 X.2.1 dL_act_35 (by decide) (by decide) rfl (by decide) ?_
    exact J6 (by omega)
  · refine top_eq (y := 8) (by rw [hj]; rfl) ?_
    refine lv_tableIn (tgt := 217) X.1 X.2.1 dL_act_35 (by decide) (by decide) rfl (by decide) ?_
    exact J8 hj
  · refine top_eq (y := 9) (by rw [hj]; rfl) ?_
    refine lv_tableIn (tgt := 236) X.1 X.2.1 dL_act_35 (by decide) (by decide) rfl (by decide) ?_
    exact J9 hj
  · refine top_eq (y := 10) (by rw [hj]; rfl) ?_
    refine lv_tableIn (tgt := 251) X.1 X.2.1 dL_act_35 (by decide) (by decide) rfl (by decide) ?_
    exact J10 hj
  · refine top_eq (y := 11) (by rw [hj]; rfl) ?_
    refine lv_tableOut (tgt := 266) X.1 X.2.1 dL_act_35 (by decide) (by decide) ?_
    exact J11 (by omega)
  · refine top_eq (y := 12) (by rw [hj]; rfl) ?_
    refine lv_tableOut (tgt := 266) X.1 X.2.1 dL_act_35 (by decide) (by decide) ?_
    exact J11 (by omega)
  · refine top_eq (y := 13) (by rw [hj]; rfl) ?_
    refine lv_tableOut (tgt := 266) X.1 X.2.1 dL_act_35 (by decide) (by decide) ?_
    exact J11 (by omega)
  · refine top_eq (y := 14) (by rw [hj]; rfl) ?_
    refine lv_tableOut (tgt := 266) X.1 X.2.1 dL_act_35 (by decide) (by decide) ?_
    exact J11 (by omega)
  · refine top_eq (y := 15) (by rw [hj]; rfl) ?_
    refine lv_tableOut (tgt := 266) X.1 X.2.1 dL_act_35 (by decide) (by decide) ?_
    exact J11 (by omega)
