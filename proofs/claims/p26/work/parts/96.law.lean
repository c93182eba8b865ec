/-! The law's loop -/
theorem len2 {kk : Nat → ClassId} {B B' : Nat} {σ σ' : SG} {h h' : Nat} {wa wb : va_W} (oa : OB kk B σ h wa) (ob : OB kk B' σ' h' wb) : (wa ++ wb).length = 358 := by
  rw [List.length_append, oa.len, ob.len]
set_option maxRecDepth 100000 in
set_option maxHeartbeats 8000000 in
theorem law_loop {p : Program} {l : Launch} {e : Env} {s : State} {m : MethodId} {args : Array Value} {below : List Frame} {meth : Method} {c : Code} {Q : State → Prop} {G : va_G} {kk : Nat → ClassId} {A : Nat → Prop} {sb L ho hq : Nat} {xs : Nat → Int32} (hst : l.stackTraces = false) (X : LM p l e room_1 s m args below meth c cL_law 9 RL G kk A) (hX : va_X sb L xs s s.heap) (hbl : sb < s.heap.size) (hbA : ¬ A sb) (hL : L ≤ 260) {T : Nat} (hT : T ≤ 22) (FIN : ∀ (H : Heap) (locs : List Loc) (ls : Array Slot) (C S : Nat), va_S A s.heap H locs → C ≤ 1200130 → S ≤ 5501080 → W p l e room_1 s m args below meth c H locs C S Q (F0 m 244 ls [.int 1])) : ∀ (d k : Nat) (σ : SG) (wa wb : va_W) (hG : GOOD σ) (oa : OB kk (300 * k) σ ho wa) (ob : OB kk (300 * k) σ hq wb) (H : Heap) (locs : List Loc) (ls : Array Slot) (hP : va_P G vwCl (wa ++ wb) H) (hD : va_D A (wa ++ wb)) (hS : va_S A s.heap H locs) (hl : lv_has ls 9 [(0, .ref sb), (1, .ref ho), (2, .ref hq), (4, .int 1), (5, .int (nI T)), (6, .int (nI k))]) (hd : k + d = T), W p l e room_1 s m args below meth c H locs (400 + 700 * k) (4000 + 5000 * k) Q (F0 m 87 ls []) := by
  intro d
  induction d with
  | zero =>
    intro k σ wa wb hG oa ob H locs ls hP hD hS hl hd
    refine lv_iload X.1 X.2.1 dL_law_87 (lv_at hl 5 rfl) ?_
    refine lv_iload X.1 X.2.1 dL_law_89 (lv_at hl 4 rfl) ?_
    refine lv_icmp_ge (tgt := 242) X.1 X.2.1 dL_law_91 (by decide) (fun c_91 => ?_) (fun c_91 => absurd ((by rw [le_i, t_n (by omega), t_n (by omega)]; omega)) c_91)
    refine lv_iload X.1 X.2.1 dL_law_242 (lv_at hl 3 rfl) ?_
    exact FIN H locs ls _ _ hS (by omega) (by omega)
  | succ d ih =>
    intro k σ wa wb hG oa ob H locs ls hP hD hS hl hd
    have hm6 := oa.row.1.1
    have hm1 := hG.1
    refine lv_iload X.1 X.2.1 dL_law_87 (lv_at hl 5 rfl) ?_
    refine lv_iload X.1 X.2.1 dL_law_89 (lv_at hl 4 rfl) ?_
    refine lv_icmp_ge (tgt := 242) X.1 X.2.1 dL_law_91 (by decide) (fun c_91 => absurd c_91 ((by rw [le_i, t_n (by omega), t_n (by omega)]; omega))) (fun c_91 => ?_)
    refine lv_iload X.1 X.2.1 dL_law_94 (lv_at hl 3 rfl) ?_
    refine lv_if_eq (tgt := 242) X.1 X.2.1 dL_law_96 (by decide) (fun c_96 => absurd c_96 (by decide)) (fun c_96 => ?_)
    refine lv_aload_n X.1 X.2.1 dL_law_99 rfl (lv_at hl 0 rfl) ?_
    refine lv_iconst (v := 2) X.1 X.2.1 dL_law_100 (by decide) ?_
    refine lv_iload X.1 X.2.1 dL_law_101 (lv_at hl 5 rfl) ?_
    refine lv_iadd X.1 X.2.1 dL_law_103 ?_
    refine top_eq (y := (nI (2 + k))) (nI_add 2 k) ?_
    refine k_cell (rest := []) (2 + k) X hP hD hS hl.1 hX hbl hbA hL (by omega) sl_L_164 ⟨Nat.le_of_ble_eq_true rfl, Nat.le_of_ble_eq_true rfl, rfl, rfl⟩ ⟨by show _ ≤ 1200130; omega, by show _ ≤ 5501080; omega⟩ rfl (Nat.le_of_ble_eq_true rfl) dL_law_104 (fun v1 H locs hv1 hP hD hS => ?_)
    refine lv_istore (lv' := [(7, .int (nI v1)), (0, .ref sb), (1, .ref ho), (2, .ref hq), (4, .int 1), (5, .int (nI T)), (6, .int (nI k))]) X.1 X.2.1 dL_law_107 hl (by decide) rfl (fun ls hl => ?_)
    refine lv_aload_n X.1 X.2.1 dL_law_109 rfl (lv_at hl 2 rfl) ?_
    refine lv_iload X.1 X.2.1 dL_law_110 (lv_at hl 0 rfl) ?_
    refine kGL (rest := []) (As := [.ref ho, .int (nI v1)]) X hP hD hS hl.1 oa.len (c_act l hst G kk (by omega) oa hm1 (by omega)) sl_L_168 ⟨Nat.le_of_ble_eq_true rfl, Nat.le_of_ble_eq_true rfl, rfl, rfl⟩ ⟨by show _ ≤ 1200130; omega, by show _ ≤ 5501080; omega⟩ rfl (Nat.le_of_ble_eq_true rfl) dL_law_112 (fun w2 r2 H locs hΦ a2 hP hD hS => ?_)
    obtain ⟨o2, rfl⟩ := hΦ
    have gA := good_act (N := v1) hG oa.row.1
    obtain ⟨σ1, hσ1⟩ : ∃ σ1 : SG, σ1 = (ACT σ v1).2 := ⟨_, rfl⟩
    rw [← hσ1] at gA
    replace o2 : OB kk (300 * k + 60) σ1 ho w2 := by rw [hσ1]; exact o2
    refine lv_istore (lv' := [(8, .int ((ACT σ v1).1)), (7, .int (nI v1)), (0, .ref sb), (1, .ref ho), (2, .ref hq), (4, .int 1), (5, .int (nI T)), (6, .int (nI k))]) X.1 X.2.1 dL_law_115 hl (by decide) rfl (fun ls hl => ?_)
    refine lv_aload_n X.1 X.2.1 dL_law_117 rfl (lv_at hl 4 rfl) ?_
    refine lv_iload X.1 X.2.1 dL_law_118 (lv_at hl 1 rfl) ?_
    refine lv_ldc (v := 100000) X.1 X.2.1 X.2.2.2.1 (X.2.2.2.2.1 _ kc_L_171) dL_law_120 ?_
    refine lv_irem X.1 X.2.1 dL_law_122 (by decide) ?_
    refine top_eq (y := (nI (v1 % 100000))) (md (b := 100000) rfl (by decide) (by omega)) ?_
    refine kGR (rest := []) (As := [.ref hq, .int (nI (v1 % 100000))]) X hP hD hS hl.1 ob.len o2.len (c_refuses l hst G kk (by omega) ob hm1 (by omega)) sl_L_172 ⟨Nat.le_of_ble_eq_true rfl, Nat.le_of_ble_eq_true rfl, rfl, rfl⟩ ⟨by show _ ≤ 1200130; omega, by show _ ≤ 5501080; omega⟩ rfl (Nat.le_of_ble_eq_true rfl) dL_law_123 (fun w3 r3 H locs hΦ a3 hP hD hS => ?_)
    obtain ⟨o3, rfl⟩ := hΦ
    refine lv_if_eq (tgt := 233) X.1 X.2.1 dL_law_126 (by decide) (fun c_126 => absurd c_126 (by decide)) (fun c_126 => ?_)
    refine lv_aload_n X.1 X.2.1 dL_law_129 rfl (lv_at hl 4 rfl) ?_
    refine lv_iload X.1 X.2.1 dL_law_130 (lv_at hl 1 rfl) ?_
    refine kGR (rest := []) (As := [.ref hq, .int (nI v1)]) X hP hD hS hl.1 o3.len o2.len (c_act l hst G kk (by omega) o3 hm1 (by omega)) sl_L_168 ⟨Nat.le_of_ble_eq_true rfl, Nat.le_of_ble_eq_true rfl, rfl, rfl⟩ ⟨by show _ ≤ 1200130; omega, by show _ ≤ 5501080; omega⟩ rfl (Nat.le_of_ble_eq_true rfl) dL_law_132 (fun w4 r4 H locs hΦ a4 hP hD hS => ?_)
    obtain ⟨o4, rfl⟩ := hΦ
    replace o4 : OB kk (300 * k + 60) σ1 hq w4 := by rw [hσ1]; exact o4
    refine lv_iload X.1 X.2.1 dL_law_135 (lv_at hl 0 rfl) ?_
    refine lv_icmp_ne (tgt := 233) X.1 X.2.1 dL_law_137 (by decide) (fun c_137 => absurd (rfl) c_137) (fun c_137 => ?_)
    refine lv_aload_n X.1 X.2.1 dL_law_140 rfl (lv_at hl 4 rfl) ?_
    refine lv_iload X.1 X.2.1 dL_law_141 (lv_at hl 1 rfl) ?_
    refine lv_sipush (v := 1000) X.1 X.2.1 dL_law_143 (by decide) ?_
    refine lv_irem X.1 X.2.1 dL_law_146 (by decide) ?_
    refine top_eq (y := (nI (v1 % 1000))) (md (b := 1000) rfl (by decide) (by omega)) ?_
    refine kGR (rest := []) (As := [.ref hq, .int (nI (v1 % 1000))]) X hP hD hS hl.1 o4.len o2.len (c_refuses l hst G kk (by omega) o4 gA.1 (by omega)) sl_L_172 ⟨Nat.le_of_ble_eq_true rfl, Nat.le_of_ble_eq_true rfl, rfl, rfl⟩ ⟨by show _ ≤ 1200130; omega, by show _ ≤ 5501080; omega⟩ rfl (Nat.le_of_ble_eq_true rfl) dL_law_147 (fun w5 r5 H locs hΦ a5 hP hD hS => ?_)
    obtain ⟨o5, rfl⟩ := hΦ
    refine lv_if_eq (tgt := 233) X.1 X.2.1 dL_law_150 (by decide) (fun c_150 => absurd c_150 (by decide)) (fun c_150 => ?_)
    refine lv_aload_n X.1 X.2.1 dL_law_153 rfl (lv_at hl 3 rfl) ?_
    refine lv_aload_n X.1 X.2.1 dL_law_154 rfl (lv_at hl 4 rfl) ?_
    refine lv_iload X.1 X.2.1 dL_law_155 (lv_at hl 1 rfl) ?_
    refine lv_sipush (v := 5000) X.1 X.2.1 dL_law_157 (by decide) ?_
    refine lv_irem X.1 X.2.1 dL_law_160 (by decide) ?_
    refine top_eq (y := (nI (v1 % 5000))) (md (b := 5000) rfl (by decide) (by omega)) ?_
    refine kG2 (rest := []) (As := [.ref ho, .ref hq, .int (nI (v1 % 5000))]) X hP hD hS hl.1 (len2 o2 o5) (c_alike l hst G kk (by omega) o2 o5 (by omega)) sl_L_176 ⟨Nat.le_of_ble_eq_true rfl, Nat.le_of_ble_eq_true rfl, rfl, rfl⟩ ⟨by show _ ≤ 1200130; omega, by show _ ≤ 5501080; omega⟩ rfl (Nat.le_of_ble_eq_true rfl) dL_law_161 (fun w6 r6 H locs hΦ a6 hP hD hS => ?_)
    obtain ⟨⟨wa6, wb6, rfl, oa6, ob6⟩, rfl⟩ := hΦ
    refine lv_if_eq (tgt := 233) X.1 X.2.1 dL_law_164 (by decide) (fun c_164 => absurd c_164 (by decide)) (fun c_164 => ?_)
    refine lv_iload X.1 X.2.1 dL_law_167 (lv_at hl 7 rfl) ?_
    refine lv_iconst (v := 2) X.1 X.2.1 dL_law_169 (by decide) ?_
    refine lv_irem X.1 X.2.1 dL_law_170 (by decide) ?_
    refine top_eq (y := (nI (k % 2))) (md (b := 2) rfl (by decide) (by omega)) ?_
    have J : ∀ (wc wd : va_W) (oc : OB kk (300 * k + 60) σ1 ho wc) (od : OB kk (300 * k + 60) σ1 hq wd) (H : Heap) (locs : List Loc) (hP : va_P G vwCl (wc ++ wd) H) (hD : va_D A (wc ++ wd)) (hS : va_S A s.heap H locs), W p l e room_1 s m args below meth c H locs (((((((400 + 700 * k) + 10) + 40) + 10) + 40) + 200) + 200) (((((((4000 + 5000 * k) + 60) + 240) + 60) + 240) + 1200) + 1200) Q (F0 m 191 ls []) := by
      intro wc wd oc od H locs hP hD hS
      have hm7 := oc.row.1.1
      refine lv_aload_n X.1 X.2.1 dL_law_191 rfl (lv_at hl 3 rfl) ?_
      refine lv_aload_n X.1 X.2.1 dL_law_192 rfl (lv_at hl 4 rfl) ?_
      refine lv_iload X.1 X.2.1 dL_law_193 (lv_at hl 1 rfl) ?_
      refine lv_bipush (v := 7) X.1 X.2.1 dL_law_195 (by decide) ?_
      refine lv_idiv X.1 X.2.1 dL_law_197 (by decide) ?_
      refine top_eq (y := (nI (v1 / 7))) (dv (b := 7) rfl (by decide) (by omega)) ?_
      refine kG2 (rest := []) (As := [.ref ho, .ref hq, .int (nI (v1 / 7))]) X hP hD hS hl.1 (len2 oc od) (c_minute l hst G kk (by omega) oc od gA.1 (by omega)) sl_L_184 ⟨Nat.le_of_ble_eq_true rfl, Nat.le_of_ble_eq_true rfl, rfl, rfl⟩ ⟨by show _ ≤ 1200130; omega, by show _ ≤ 5501080; omega⟩ rfl (Nat.le_of_ble_eq_true rfl) dL_law_198 (fun w7 r7 H locs hΦ a7 hP hD hS => ?_)
      obtain ⟨⟨wa7, wb7, rfl, oa7, ob7⟩, rfl⟩ := hΦ
      have g2 := good_back (g := RUNF σ1.1 1) gA (by rw [mF_run hm7]; exact gA.1)
      obtain ⟨σ2, hσ2⟩ : ∃ σ2 : SG, σ2 = sUndo (sPush σ1 (RUNF σ1.1 1)) := ⟨_, rfl⟩
      rw [← hσ2] at g2 oa7 ob7
      refine lv_if_eq (tgt := 233) X.1 X.2.1 dL_law_201 (by decide) (fun c_201 => absurd c_201 (by decide)) (fun c_201 => ?_)
      refine lv_iload X.1 X.2.1 dL_law_204 (lv_at hl 7 rfl) ?_
      refine lv_iconst (v := 3) X.1 X.2.1 dL_law_206 (by decide) ?_
      refine lv_irem X.1 X.2.1 dL_law_207 (by decide) ?_
      refine top_eq (y := (nI (k % 3))) (md (b := 3) rfl (by decide) (by omega)) ?_
      have J2 : ∀ (σ3 : SG) (we wf : va_W) (g3 : GOOD σ3) (oe : OB kk (300 * k + 240) σ3 ho we) (of : OB kk (300 * k + 240) σ3 hq wf) (H : Heap) (locs : List Loc) (hP : va_P G vwCl (we ++ wf) H) (hD : va_D A (we ++ wf)) (hS : va_S A s.heap H locs), W p l e room_1 s m args below meth c H locs (((((((((400 + 700 * k) + 10) + 40) + 10) + 40) + 200) + 200) + 60) + 60) (((((((((4000 + 5000 * k) + 60) + 240) + 60) + 240) + 1200) + 1200) + 360) + 360) Q (F0 m 229 ls []) := by
        intro σ3 we wf g3 oe of H locs hP hD hS
        refine lv_iconst (v := 1) X.1 X.2.1 dL_law_229 (by decide) ?_
        refine lv_goto (tgt := 234) X.1 X.2.1 dL_law_230 (by decide) ?_
        refine lv_istore (lv' := [(4, .int 1), (8, .int ((ACT σ v1).1)), (7, .int (nI v1)), (0, .ref sb), (1, .ref ho), (2, .ref hq), (5, .int (nI T)), (6, .int (nI k))]) X.1 X.2.1 dL_law_234 hl (by decide) rfl (fun ls hl => ?_)
        refine lv_iinc (v := (nI (k + 1))) (lv' := [(6, .int (nI (k + 1))), (4, .int 1), (8, .int ((ACT σ v1).1)), (7, .int (nI v1)), (0, .ref sb), (1, .ref ho), (2, .ref hq), (5, .int (nI T))]) X.1 X.2.1 dL_law_236 hl (k := 7) rfl (nI_add k 1) (by decide) rfl (fun ls hl => ?_)
        refine lv_goto (tgt := 87) X.1 X.2.1 dL_law_239 (by decide) ?_
        refine W.widen (k := 400 + 700 * (k + 1)) (n := 4000 + 5000 * (k + 1)) (by omega) (by omega) ?_
        exact ih (k + 1) σ3 we wf g3 (OB.mono (by omega) oe) (OB.mono (by omega) of) H locs ls hP hD hS (lv_sub hl [4, 5, 6, 1, 7, 0] rfl) (by omega)
      refine lv_if_gt (tgt := 229) X.1 X.2.1 dL_law_208 (by decide) (fun c_208 => ?_) (fun c_208 => ?_)
      · skip
        refine W.widen (k := (((((((((400 + 700 * k) + 10) + 40) + 10) + 40) + 200) + 200) + 60) + 60)) (n := (((((((((4000 + 5000 * k) + 60) + 240) + 60) + 240) + 1200) + 1200) + 360) + 360)) (by omega) (by omega) ?_
        exact J2 σ2 _ _ g2 (OB.mono (by omega) oa7) (OB.mono (by omega) ob7) H locs hP hD hS
      · skip
        refine lv_aload_n X.1 X.2.1 dL_law_211 rfl (lv_at hl 3 rfl) ?_
        refine lv_aload_n X.1 X.2.1 dL_law_212 rfl (lv_at hl 4 rfl) ?_
        refine lv_iconst (v := 1) X.1 X.2.1 dL_law_213 (by decide) ?_
        refine lv_iload X.1 X.2.1 dL_law_214 (lv_at hl 1 rfl) ?_
        refine lv_bipush (v := 9) X.1 X.2.1 dL_law_216 (by decide) ?_
        refine lv_idiv X.1 X.2.1 dL_law_218 (by decide) ?_
        refine top_eq (y := (nI (v1 / 9))) (dv (b := 9) rfl (by decide) (by omega)) ?_
        refine lv_bipush (v := 60) X.1 X.2.1 dL_law_219 (by decide) ?_
        refine lv_irem X.1 X.2.1 dL_law_221 (by decide) ?_
        refine top_eq (y := (nI ((v1 / 9) % 60))) (md (b := 60) rfl (by decide) (by omega)) ?_
        refine lv_iadd X.1 X.2.1 dL_law_222 ?_
        refine top_eq (y := (nI (1 + ((v1 / 9) % 60)))) (nI_add 1 ((v1 / 9) % 60)) ?_
        refine kG2 (rest := []) (As := [.ref ho, .ref hq, .int (nI (1 + ((v1 / 9) % 60)))]) X hP hD hS hl.1 (len2 oa7 ob7) (c_limit l hst G kk (by omega) oa7 ob7 g2 (by omega) (by omega)) sl_L_187 ⟨Nat.le_of_ble_eq_true rfl, Nat.le_of_ble_eq_true rfl, rfl, rfl⟩ ⟨by show _ ≤ 1200130; omega, by show _ ≤ 5501080; omega⟩ rfl (Nat.le_of_ble_eq_true rfl) dL_law_223 (fun w8 r8 H locs hΦ a8 hP hD hS => ?_)
        obtain ⟨⟨σ3, g8, wa8, wb8, rfl, oa8, ob8⟩, rfl⟩ := hΦ
        refine lv_if_eq (tgt := 233) X.1 X.2.1 dL_law_226 (by decide) (fun c_226 => absurd c_226 (by decide)) (fun c_226 => ?_)
        exact J2 σ3 _ _ g8 (OB.mono (by omega) oa8) (OB.mono (by omega) ob8) H locs hP hD hS
    refine lv_if_ne (tgt := 184) X.1 X.2.1 dL_law_171 (by decide) (fun c_171 => ?_) (fun c_171 => ?_)
    · skip
      refine lv_aload_n X.1 X.2.1 dL_law_184 rfl (lv_at hl 4 rfl) ?_
      refine kGR (rest := []) (As := [.ref hq]) X hP hD hS hl.1 ob6.len oa6.len (c_holds l hst G kk (by omega) ob6 ) sl_L_180 ⟨Nat.le_of_ble_eq_true rfl, Nat.le_of_ble_eq_true rfl, rfl, rfl⟩ ⟨by show _ ≤ 1200130; omega, by show _ ≤ 5501080; omega⟩ rfl (Nat.le_of_ble_eq_true rfl) dL_law_185 (fun w9 r9 H locs hΦ a9 hP hD hS => ?_)
      obtain ⟨o9, rfl⟩ := hΦ
      refine lv_if_eq (tgt := 233) X.1 X.2.1 dL_law_188 (by decide) (fun c_188 => absurd c_188 (by decide)) (fun c_188 => ?_)
      exact J _ _ oa6 o9 H locs hP hD hS
    · skip
      refine lv_aload_n X.1 X.2.1 dL_law_174 rfl (lv_at hl 3 rfl) ?_
      refine kGL (rest := []) (As := [.ref ho]) X hP hD hS hl.1 oa6.len (c_holds l hst G kk (by omega) oa6 ) sl_L_180 ⟨Nat.le_of_ble_eq_true rfl, Nat.le_of_ble_eq_true rfl, rfl, rfl⟩ ⟨by show _ ≤ 1200130; omega, by show _ ≤ 5501080; omega⟩ rfl (Nat.le_of_ble_eq_true rfl) dL_law_175 (fun w10 r10 H locs hΦ a10 hP hD hS => ?_)
      obtain ⟨o10, rfl⟩ := hΦ
      refine lv_if_eq (tgt := 233) X.1 X.2.1 dL_law_178 (by decide) (fun c_178 => absurd c_178 (by decide)) (fun c_178 => ?_)
      refine lv_goto (tgt := 191) X.1 X.2.1 dL_law_181 (by decide) ?_
      exact J _ _ o10 ob6 H locs hP hD hS
