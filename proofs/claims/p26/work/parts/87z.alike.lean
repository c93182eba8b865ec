/-! Two stores that hold the same -/
def OB2 (kk : Nat → ClassId) (B : Nat) (σ : SG) (ho hq : Nat) (w : va_W) : Prop := ∃ a b : va_W, w = a ++ b ∧ OB kk B σ ho a ∧ OB kk B σ hq b
set_option maxRecDepth 100000 in
set_option maxHeartbeats 4000000 in
theorem c_alike (l : Launch) (hst : l.stackTraces = false) (G : va_G) (kk : Nat → ClassId) {B : Nat} {σ : SG} {ho hq : Nat} {wa wb : va_W} (hB : B ≤ 80000) (oa : OB kk B σ ho wa) (ob : OB kk B σ hq wb) {N : Nat} (hN : N < 2147483648) : CG l yL_alike cL_alike 6 (some .boolean) (rmG 9 192 200 1200) [.ref ho, .ref hq, .int (nI N)] G kk (wa ++ wb) 200 1200 (QG G kk (wa ++ wb) (fun w r => OB2 kk B σ ho hq w ∧ r = 1)) := by
  have ok := oa.row.1
  have hm6 := ok.1
  refine cg2_start (by decide +kernel) (Nat.le_of_ble_eq_true rfl) (Or.inr rfl) ?_
  intro p e s m args below meth c A ls Q X hP hD hS hl FIN
  have X : LM p l e (rmG 9 192 200 1200) s m args below meth c cL_alike 6 RL G kk A := X
  have hl : lv_has ls 6 [(0, .ref ho), (1, .ref hq), (2, .int (nI N))] := hl
  have a0 : wa.map (fun q => q.1) = wa.map (fun q => q.1) := rfl
  have b0 : wb.map (fun q => q.1) = wb.map (fun q => q.1) := rfl
  have L2 : ∀ (d i : Nat) (w1 : va_W) (o1 : OB kk B σ ho w1) (a1 : w1.map (fun q => q.1) = wa.map (fun q => q.1)) (w2 : va_W) (o2 : OB kk B σ hq w2) (a2 : w2.map (fun q => q.1) = wb.map (fun q => q.1))  (H : Heap) (locs : List Loc) (ls : Array Slot) (hP : va_P G vwCl (w1 ++ w2) H) (hD : va_D A (w1 ++ w2)) (hS : va_S A s.heap H locs) (hl : lv_has ls 6 [(0, .ref ho), (1, .ref hq), (2, .int (nI N)), (3, .int (nI (mF σ.1))), (4, .int 1), (5, .int (nI i))]) (hd : i + d = mF σ.1), W p l e (rmG 9 192 200 1200) s m args below meth c H locs (60 + 8 * i) (360 + 48 * i) Q (F0 m 138 ls []) := by
    intro d
    induction d with
    | zero =>
      intro i w1 o1 a1 w2 o2 a2  H locs ls hP hD hS hl hd
      refine lv_iload X.1 X.2.1 dL_alike_138 (lv_at hl 5 rfl) ?_
      refine lv_iload_n X.1 X.2.1 dL_alike_140 rfl (lv_at hl 3 rfl) ?_
      refine lv_icmp_ge (tgt := 252) X.1 X.2.1 dL_alike_141 (by decide) (fun c_141 => ?_) (fun c_141 => absurd (nI_le (a := mF σ.1) (b := i) (by omega) (by omega)) c_141)
      refine lv_iload X.1 X.2.1 dL_alike_252 (lv_at hl 4 rfl) ?_
      refine W.widen (k := 200) (n := 1200) (by omega) (by omega) ?_
      exact FIN _ 1 H locs ls 254 ⟨⟨_, _, rfl, o1, o2⟩, rfl⟩ (ads_app a1 a2) hP hD hS (fun _ => rfl) dL_alike_254
    | succ d ih =>
      intro i w1 o1 a1 w2 o2 a2  H locs ls hP hD hS hl hd
      refine lv_iload X.1 X.2.1 dL_alike_138 (lv_at hl 5 rfl) ?_
      refine lv_iload_n X.1 X.2.1 dL_alike_140 rfl (lv_at hl 3 rfl) ?_
      refine lv_icmp_ge (tgt := 252) X.1 X.2.1 dL_alike_141 (by decide) (fun c_141 => absurd c_141 (nI_ge (a := i) (b := mF σ.1) (by omega) (by omega))) (fun c_141 => ?_)
      refine lv_iload X.1 X.2.1 dL_alike_144 (lv_at hl 4 rfl) ?_
      refine lv_if_eq (tgt := 252) X.1 X.2.1 dL_alike_146 (by decide) (fun c_146 => absurd c_146 (by decide)) (fun c_146 => ?_)
      refine lv_aload_n X.1 X.2.1 dL_alike_149 rfl (lv_at hl 0 rfl) ?_
      refine lv_iconst (v := 3) X.1 X.2.1 dL_alike_150 (by decide) ?_
      refine lv_iload X.1 X.2.1 dL_alike_151 (lv_at hl 5 rfl) ?_
      refine lv_iconst (v := 3) X.1 X.2.1 dL_alike_153 (by decide) ?_
      refine lv_iconst (v := 0) X.1 X.2.1 dL_alike_154 (by decide) ?_
      refine kGL (rest := []) (As := [.ref ho, .int 3, .int (nI i), .int 3, .int 0]) X hP hD hS hl.1 o1.len (q_room l hst G kk (by omega) o1 (nI i) 3 0 ) sl_L_138 ⟨Nat.le_of_ble_eq_true rfl, Nat.le_of_ble_eq_true rfl, rfl, rfl⟩ ⟨by show _ ≤ 200; omega, by show _ ≤ 1200; omega⟩ rfl (Nat.le_of_ble_eq_true rfl) dL_alike_155 (fun w3 r3 H locs hΦ a3 hP hD hS => ?_)
      obtain ⟨o3, rfl⟩ := hΦ
      replace a3 := a3.trans a1
      refine lv_aload_n X.1 X.2.1 dL_alike_158 rfl (lv_at hl 1 rfl) ?_
      refine lv_iconst (v := 3) X.1 X.2.1 dL_alike_159 (by decide) ?_
      refine lv_iload X.1 X.2.1 dL_alike_160 (lv_at hl 5 rfl) ?_
      refine lv_iconst (v := 3) X.1 X.2.1 dL_alike_162 (by decide) ?_
      refine lv_iconst (v := 0) X.1 X.2.1 dL_alike_163 (by decide) ?_
      refine kGR (rest := [.int (qRoom σ.1 (nI i) 3)]) (As := [.ref hq, .int 3, .int (nI i), .int 3, .int 0]) X hP hD hS hl.1 o2.len o3.len (q_room l hst G kk (by omega) o2 (nI i) 3 0 ) sl_L_138 ⟨Nat.le_of_ble_eq_true rfl, Nat.le_of_ble_eq_true rfl, rfl, rfl⟩ ⟨by show _ ≤ 200; omega, by show _ ≤ 1200; omega⟩ rfl (Nat.le_of_ble_eq_true rfl) dL_alike_164 (fun w4 r4 H locs hΦ a4 hP hD hS => ?_)
      obtain ⟨o4, rfl⟩ := hΦ
      replace a4 := a4.trans a2
      refine lv_icmp_ne (tgt := 243) X.1 X.2.1 dL_alike_167 (by decide) (fun c_167 => absurd (rfl) c_167) (fun c_167 => ?_)
      refine lv_aload_n X.1 X.2.1 dL_alike_170 rfl (lv_at hl 0 rfl) ?_
      refine lv_iconst (v := 3) X.1 X.2.1 dL_alike_171 (by decide) ?_
      refine lv_iload X.1 X.2.1 dL_alike_172 (lv_at hl 5 rfl) ?_
      refine lv_iconst (v := 5) X.1 X.2.1 dL_alike_174 (by decide) ?_
      refine lv_iconst (v := 0) X.1 X.2.1 dL_alike_175 (by decide) ?_
      refine kGL (rest := []) (As := [.ref ho, .int 3, .int (nI i), .int 5, .int 0]) X hP hD hS hl.1 o3.len (q_room l hst G kk (by omega) o3 (nI i) 5 0 ) sl_L_138 ⟨Nat.le_of_ble_eq_true rfl, Nat.le_of_ble_eq_true rfl, rfl, rfl⟩ ⟨by show _ ≤ 200; omega, by show _ ≤ 1200; omega⟩ rfl (Nat.le_of_ble_eq_true rfl) dL_alike_176 (fun w5 r5 H locs hΦ a5 hP hD hS => ?_)
      obtain ⟨o5, rfl⟩ := hΦ
      replace a5 := a5.trans a3
      refine lv_aload_n X.1 X.2.1 dL_alike_179 rfl (lv_at hl 1 rfl) ?_
      refine lv_iconst (v := 3) X.1 X.2.1 dL_alike_180 (by decide) ?_
      refine lv_iload X.1 X.2.1 dL_alike_181 (lv_at hl 5 rfl) ?_
      refine lv_iconst (v := 5) X.1 X.2.1 dL_alike_183 (by decide) ?_
      refine lv_iconst (v := 0) X.1 X.2.1 dL_alike_184 (by decide) ?_
      refine kGR (rest := [.int (qRoom σ.1 (nI i) 5)]) (As := [.ref hq, .int 3, .int (nI i), .int 5, .int 0]) X hP hD hS hl.1 o4.len o5.len (q_room l hst G kk (by omega) o4 (nI i) 5 0 ) sl_L_138 ⟨Nat.le_of_ble_eq_true rfl, Nat.le_of_ble_eq_true rfl, rfl, rfl⟩ ⟨by show _ ≤ 200; omega, by show _ ≤ 1200; omega⟩ rfl (Nat.le_of_ble_eq_true rfl) dL_alike_185 (fun w6 r6 H locs hΦ a6 hP hD hS => ?_)
      obtain ⟨o6, rfl⟩ := hΦ
      replace a6 := a6.trans a4
      refine lv_icmp_ne (tgt := 243) X.1 X.2.1 dL_alike_188 (by decide) (fun c_188 => absurd (rfl) c_188) (fun c_188 => ?_)
      refine lv_aload_n X.1 X.2.1 dL_alike_191 rfl (lv_at hl 0 rfl) ?_
      refine lv_iconst (v := 3) X.1 X.2.1 dL_alike_192 (by decide) ?_
      refine lv_iload X.1 X.2.1 dL_alike_193 (lv_at hl 5 rfl) ?_
      refine lv_iload_n X.1 X.2.1 dL_alike_195 rfl (lv_at hl 2 rfl) ?_
      refine lv_bipush (v := 8) X.1 X.2.1 dL_alike_196 (by decide) ?_
      refine lv_irem X.1 X.2.1 dL_alike_198 (by decide) ?_
      refine top_eq (y := (nI (N % 8))) (md (b := 8) rfl (by decide) (by omega)) ?_
      refine lv_iconst (v := 0) X.1 X.2.1 dL_alike_199 (by decide) ?_
      refine kGL (rest := []) (As := [.ref ho, .int 3, .int (nI i), .int (nI (N % 8)), .int 0]) X hP hD hS hl.1 o5.len (q_room l hst G kk (by omega) o5 (nI i) (nI (N % 8)) 0 ) sl_L_138 ⟨Nat.le_of_ble_eq_true rfl, Nat.le_of_ble_eq_true rfl, rfl, rfl⟩ ⟨by show _ ≤ 200; omega, by show _ ≤ 1200; omega⟩ rfl (Nat.le_of_ble_eq_true rfl) dL_alike_200 (fun w7 r7 H locs hΦ a7 hP hD hS => ?_)
      obtain ⟨o7, rfl⟩ := hΦ
      replace a7 := a7.trans a5
      refine lv_aload_n X.1 X.2.1 dL_alike_203 rfl (lv_at hl 1 rfl) ?_
      refine lv_iconst (v := 3) X.1 X.2.1 dL_alike_204 (by decide) ?_
      refine lv_iload X.1 X.2.1 dL_alike_205 (lv_at hl 5 rfl) ?_
      refine lv_iload_n X.1 X.2.1 dL_alike_207 rfl (lv_at hl 2 rfl) ?_
      refine lv_bipush (v := 8) X.1 X.2.1 dL_alike_208 (by decide) ?_
      refine lv_irem X.1 X.2.1 dL_alike_210 (by decide) ?_
      refine top_eq (y := (nI (N % 8))) (md (b := 8) rfl (by decide) (by omega)) ?_
      refine lv_iconst (v := 0) X.1 X.2.1 dL_alike_211 (by decide) ?_
      refine kGR (rest := [.int (qRoom σ.1 (nI i) (nI (N % 8)))]) (As := [.ref hq, .int 3, .int (nI i), .int (nI (N % 8)), .int 0]) X hP hD hS hl.1 o6.len o7.len (q_room l hst G kk (by omega) o6 (nI i) (nI (N % 8)) 0 ) sl_L_138 ⟨Nat.le_of_ble_eq_true rfl, Nat.le_of_ble_eq_true rfl, rfl, rfl⟩ ⟨by show _ ≤ 200; omega, by show _ ≤ 1200; omega⟩ rfl (Nat.le_of_ble_eq_true rfl) dL_alike_212 (fun w8 r8 H locs hΦ a8 hP hD hS => ?_)
      obtain ⟨o8, rfl⟩ := hΦ
      replace a8 := a8.trans a6
      refine lv_icmp_ne (tgt := 243) X.1 X.2.1 dL_alike_215 (by decide) (fun c_215 => absurd (rfl) c_215) (fun c_215 => ?_)
      refine lv_aload_n X.1 X.2.1 dL_alike_218 rfl (lv_at hl 0 rfl) ?_
      refine lv_iconst (v := 4) X.1 X.2.1 dL_alike_219 (by decide) ?_
      refine lv_iload X.1 X.2.1 dL_alike_220 (lv_at hl 5 rfl) ?_
      refine lv_iconst (v := 0) X.1 X.2.1 dL_alike_222 (by decide) ?_
      refine lv_iconst (v := 0) X.1 X.2.1 dL_alike_223 (by decide) ?_
      refine kGL (rest := []) (As := [.ref ho, .int 4, .int (nI i), .int 0, .int 0]) X hP hD hS hl.1 o7.len (q_does l hst G kk (by omega) o7 (nI i) 0 0 ) sl_L_138 ⟨Nat.le_of_ble_eq_true rfl, Nat.le_of_ble_eq_true rfl, rfl, rfl⟩ ⟨by show _ ≤ 200; omega, by show _ ≤ 1200; omega⟩ rfl (Nat.le_of_ble_eq_true rfl) dL_alike_224 (fun w9 r9 H locs hΦ a9 hP hD hS => ?_)
      obtain ⟨o9, rfl⟩ := hΦ
      replace a9 := a9.trans a7
      refine lv_aload_n X.1 X.2.1 dL_alike_227 rfl (lv_at hl 1 rfl) ?_
      refine lv_iconst (v := 4) X.1 X.2.1 dL_alike_228 (by decide) ?_
      refine lv_iload X.1 X.2.1 dL_alike_229 (lv_at hl 5 rfl) ?_
      refine lv_iconst (v := 0) X.1 X.2.1 dL_alike_231 (by decide) ?_
      refine lv_iconst (v := 0) X.1 X.2.1 dL_alike_232 (by decide) ?_
      refine kGR (rest := [.int (qDoes σ.1 (nI i))]) (As := [.ref hq, .int 4, .int (nI i), .int 0, .int 0]) X hP hD hS hl.1 o8.len o9.len (q_does l hst G kk (by omega) o8 (nI i) 0 0 ) sl_L_138 ⟨Nat.le_of_ble_eq_true rfl, Nat.le_of_ble_eq_true rfl, rfl, rfl⟩ ⟨by show _ ≤ 200; omega, by show _ ≤ 1200; omega⟩ rfl (Nat.le_of_ble_eq_true rfl) dL_alike_233 (fun w10 r10 H locs hΦ a10 hP hD hS => ?_)
      obtain ⟨o10, rfl⟩ := hΦ
      replace a10 := a10.trans a8
      refine lv_icmp_ne (tgt := 243) X.1 X.2.1 dL_alike_236 (by decide) (fun c_236 => absurd (rfl) c_236) (fun c_236 => ?_)
      refine lv_iconst (v := 1) X.1 X.2.1 dL_alike_239 (by decide) ?_
      refine lv_goto (tgt := 244) X.1 X.2.1 dL_alike_240 (by decide) ?_
      refine lv_istore (lv' := [(4, .int 1), (0, .ref ho), (1, .ref hq), (2, .int (nI N)), (3, .int (nI (mF σ.1))), (5, .int (nI i))]) X.1 X.2.1 dL_alike_244 hl (by decide) rfl (fun ls hl => ?_)
      refine lv_iinc (v := (nI (i + 1))) (lv' := [(5, .int (nI (i + 1))), (4, .int 1), (0, .ref ho), (1, .ref hq), (2, .int (nI N)), (3, .int (nI (mF σ.1)))]) X.1 X.2.1 dL_alike_246 hl (k := 5) rfl (nI_add i 1) (by decide) rfl (fun ls hl => ?_)
      refine lv_goto (tgt := 138) X.1 X.2.1 dL_alike_249 (by decide) ?_
      refine W.widen (k := 60 + 8 * (i + 1)) (n := 360 + 48 * (i + 1)) (by omega) (by omega) ?_
      exact ih (i + 1) _ o9 a9 _ o10 a10  _ _ ls hP hD hS (lv_sub hl [2, 3, 4, 5, 1, 0] rfl) (by omega)
  have L1 : ∀ (d i : Nat) (w11 : va_W) (o11 : OB kk B σ ho w11) (a11 : w11.map (fun q => q.1) = wa.map (fun q => q.1)) (w12 : va_W) (o12 : OB kk B σ hq w12) (a12 : w12.map (fun q => q.1) = wb.map (fun q => q.1))  (H : Heap) (locs : List Loc) (ls : Array Slot) (hP : va_P G vwCl (w11 ++ w12) H) (hD : va_D A (w11 ++ w12)) (hS : va_S A s.heap H locs) (hl : lv_has ls 6 [(0, .ref ho), (1, .ref hq), (2, .int (nI N)), (3, .int (nI (mF σ.1))), (4, .int 1), (5, .int (nI i))]) (hd : i + d = 11), W p l e (rmG 9 192 200 1200) s m args below meth c H locs (10 + 4 * i) (60 + 24 * i) Q (F0 m 68 ls []) := by
    intro d
    induction d with
    | zero =>
      intro i w11 o11 a11 w12 o12 a12  H locs ls hP hD hS hl hd
      refine lv_iload X.1 X.2.1 dL_alike_68 (lv_at hl 5 rfl) ?_
      refine lv_bipush (v := 11) X.1 X.2.1 dL_alike_70 (by decide) ?_
      refine lv_icmp_ge (tgt := 135) X.1 X.2.1 dL_alike_72 (by decide) (fun c_72 => ?_) (fun c_72 => absurd (nI_le (a := 11) (b := i) (by omega) (by omega)) c_72)
      refine lv_iconst (v := 0) X.1 X.2.1 dL_alike_135 (by decide) ?_
      refine lv_istore (lv' := [(5, .int 0), (0, .ref ho), (1, .ref hq), (2, .int (nI N)), (3, .int (nI (mF σ.1))), (4, .int 1)]) X.1 X.2.1 dL_alike_136 hl (by decide) rfl (fun ls hl => ?_)
      have hl : lv_has ls 6 [(5, .int (nI 0)), (0, .ref ho), (1, .ref hq), (2, .int (nI N)), (3, .int (nI (mF σ.1))), (4, .int 1)] := hl
      refine W.widen (k := 60 + 8 * 0) (n := 360 + 48 * 0) (by omega) (by omega) ?_
      exact L2 (mF σ.1) 0 _ o11 a11 _ o12 a12  _ _ ls hP hD hS (lv_sub hl [1, 2, 3, 4, 5, 0] rfl) (by omega)
    | succ d ih =>
      intro i w11 o11 a11 w12 o12 a12  H locs ls hP hD hS hl hd
      refine lv_iload X.1 X.2.1 dL_alike_68 (lv_at hl 5 rfl) ?_
      refine lv_bipush (v := 11) X.1 X.2.1 dL_alike_70 (by decide) ?_
      refine lv_icmp_ge (tgt := 135) X.1 X.2.1 dL_alike_72 (by decide) (fun c_72 => absurd c_72 (nI_ge (a := i) (b := 11) (by omega) (by omega))) (fun c_72 => ?_)
      refine lv_iload X.1 X.2.1 dL_alike_75 (lv_at hl 4 rfl) ?_
      refine lv_if_eq (tgt := 135) X.1 X.2.1 dL_alike_77 (by decide) (fun c_77 => absurd c_77 (by decide)) (fun c_77 => ?_)
      refine lv_aload_n X.1 X.2.1 dL_alike_80 rfl (lv_at hl 0 rfl) ?_
      refine lv_iconst (v := 2) X.1 X.2.1 dL_alike_81 (by decide) ?_
      refine lv_iload X.1 X.2.1 dL_alike_82 (lv_at hl 5 rfl) ?_
      refine lv_iconst (v := 0) X.1 X.2.1 dL_alike_84 (by decide) ?_
      refine lv_iconst (v := 0) X.1 X.2.1 dL_alike_85 (by decide) ?_
      refine kGL (rest := []) (As := [.ref ho, .int 2, .int (nI i), .int 0, .int 0]) X hP hD hS hl.1 o11.len (q_about l hst G kk (by omega) o11 (nI i) 0 0 ) sl_L_138 ⟨Nat.le_of_ble_eq_true rfl, Nat.le_of_ble_eq_true rfl, rfl, rfl⟩ ⟨by show _ ≤ 200; omega, by show _ ≤ 1200; omega⟩ rfl (Nat.le_of_ble_eq_true rfl) dL_alike_86 (fun w13 r13 H locs hΦ a13 hP hD hS => ?_)
      obtain ⟨o13, rfl⟩ := hΦ
      replace a13 := a13.trans a11
      refine lv_aload_n X.1 X.2.1 dL_alike_89 rfl (lv_at hl 1 rfl) ?_
      refine lv_iconst (v := 2) X.1 X.2.1 dL_alike_90 (by decide) ?_
      refine lv_iload X.1 X.2.1 dL_alike_91 (lv_at hl 5 rfl) ?_
      refine lv_iconst (v := 0) X.1 X.2.1 dL_alike_93 (by decide) ?_
      refine lv_iconst (v := 0) X.1 X.2.1 dL_alike_94 (by decide) ?_
      refine kGR (rest := [.int (qAbout σ.1 (nI i))]) (As := [.ref hq, .int 2, .int (nI i), .int 0, .int 0]) X hP hD hS hl.1 o12.len o13.len (q_about l hst G kk (by omega) o12 (nI i) 0 0 ) sl_L_138 ⟨Nat.le_of_ble_eq_true rfl, Nat.le_of_ble_eq_true rfl, rfl, rfl⟩ ⟨by show _ ≤ 200; omega, by show _ ≤ 1200; omega⟩ rfl (Nat.le_of_ble_eq_true rfl) dL_alike_95 (fun w14 r14 H locs hΦ a14 hP hD hS => ?_)
      obtain ⟨o14, rfl⟩ := hΦ
      replace a14 := a14.trans a12
      refine lv_icmp_ne (tgt := 126) X.1 X.2.1 dL_alike_98 (by decide) (fun c_98 => absurd (rfl) c_98) (fun c_98 => ?_)
      refine lv_aload_n X.1 X.2.1 dL_alike_101 rfl (lv_at hl 0 rfl) ?_
      refine lv_iconst (v := 5) X.1 X.2.1 dL_alike_102 (by decide) ?_
      refine lv_iload X.1 X.2.1 dL_alike_103 (lv_at hl 5 rfl) ?_
      refine lv_iconst (v := 0) X.1 X.2.1 dL_alike_105 (by decide) ?_
      refine lv_iconst (v := 0) X.1 X.2.1 dL_alike_106 (by decide) ?_
      refine kGL (rest := []) (As := [.ref ho, .int 5, .int (nI i), .int 0, .int 0]) X hP hD hS hl.1 o13.len (q_setting l hst G kk (by omega) o13 (nI i) 0 0 ) sl_L_138 ⟨Nat.le_of_ble_eq_true rfl, Nat.le_of_ble_eq_true rfl, rfl, rfl⟩ ⟨by show _ ≤ 200; omega, by show _ ≤ 1200; omega⟩ rfl (Nat.le_of_ble_eq_true rfl) dL_alike_107 (fun w15 r15 H locs hΦ a15 hP hD hS => ?_)
      obtain ⟨o15, rfl⟩ := hΦ
      replace a15 := a15.trans a13
      refine lv_aload_n X.1 X.2.1 dL_alike_110 rfl (lv_at hl 1 rfl) ?_
      refine lv_iconst (v := 5) X.1 X.2.1 dL_alike_111 (by decide) ?_
      refine lv_iload X.1 X.2.1 dL_alike_112 (lv_at hl 5 rfl) ?_
      refine lv_iconst (v := 0) X.1 X.2.1 dL_alike_114 (by decide) ?_
      refine lv_iconst (v := 0) X.1 X.2.1 dL_alike_115 (by decide) ?_
      refine kGR (rest := [.int (qSet σ.1 (nI i))]) (As := [.ref hq, .int 5, .int (nI i), .int 0, .int 0]) X hP hD hS hl.1 o14.len o15.len (q_setting l hst G kk (by omega) o14 (nI i) 0 0 ) sl_L_138 ⟨Nat.le_of_ble_eq_true rfl, Nat.le_of_ble_eq_true rfl, rfl, rfl⟩ ⟨by show _ ≤ 200; omega, by show _ ≤ 1200; omega⟩ rfl (Nat.le_of_ble_eq_true rfl) dL_alike_116 (fun w16 r16 H locs hΦ a16 hP hD hS => ?_)
      obtain ⟨o16, rfl⟩ := hΦ
      replace a16 := a16.trans a14
      refine lv_icmp_ne (tgt := 126) X.1 X.2.1 dL_alike_119 (by decide) (fun c_119 => absurd (rfl) c_119) (fun c_119 => ?_)
      refine lv_iconst (v := 1) X.1 X.2.1 dL_alike_122 (by decide) ?_
      refine lv_goto (tgt := 127) X.1 X.2.1 dL_alike_123 (by decide) ?_
      refine lv_istore (lv' := [(4, .int 1), (0, .ref ho), (1, .ref hq), (2, .int (nI N)), (3, .int (nI (mF σ.1))), (5, .int (nI i))]) X.1 X.2.1 dL_alike_127 hl (by decide) rfl (fun ls hl => ?_)
      refine lv_iinc (v := (nI (i + 1))) (lv' := [(5, .int (nI (i + 1))), (4, .int 1), (0, .ref ho), (1, .ref hq), (2, .int (nI N)), (3, .int (nI (mF σ.1)))]) X.1 X.2.1 dL_alike_129 hl (k := 5) rfl (nI_add i 1) (by decide) rfl (fun ls hl => ?_)
      refine lv_goto (tgt := 68) X.1 X.2.1 dL_alike_132 (by decide) ?_
      refine W.widen (k := 10 + 4 * (i + 1)) (n := 60 + 24 * (i + 1)) (by omega) (by omega) ?_
      exact ih (i + 1) _ o15 a15 _ o16 a16  _ _ ls hP hD hS (lv_sub hl [2, 3, 4, 5, 1, 0] rfl) (by omega)
  refine lv_aload_n X.1 X.2.1 dL_alike_0 rfl (lv_at hl 0 rfl) ?_
  refine lv_iconst (v := 2) X.1 X.2.1 dL_alike_1 (by decide) ?_
  refine lv_iconst (v := 0) X.1 X.2.1 dL_alike_2 (by decide) ?_
  refine lv_iconst (v := 0) X.1 X.2.1 dL_alike_3 (by decide) ?_
  refine lv_iconst (v := 0) X.1 X.2.1 dL_alike_4 (by decide) ?_
  refine kGL (rest := []) (As := [.ref ho, .int 2, .int 0, .int 0, .int 0]) X hP hD hS hl.1 oa.len (q_about l hst G kk (by omega) oa 0 0 0 ) sl_L_138 ⟨Nat.le_of_ble_eq_true rfl, Nat.le_of_ble_eq_true rfl, rfl, rfl⟩ ⟨by show _ ≤ 200; omega, by show _ ≤ 1200; omega⟩ rfl (Nat.le_of_ble_eq_true rfl) dL_alike_5 (fun w17 r17 H locs hΦ a17 hP hD hS => ?_)
  obtain ⟨o17, rfl⟩ := hΦ
  replace a17 := a17.trans a0
  refine top_eq (y := (nI (mF σ.1))) (qa_0 ok) ?_
  refine lv_istore_n (lv' := [(3, .int (nI (mF σ.1))), (0, .ref ho), (1, .ref hq), (2, .int (nI N))]) X.1 X.2.1 dL_alike_8 rfl hl (by decide) rfl (fun ls hl => ?_)
  refine lv_aload_n X.1 X.2.1 dL_alike_9 rfl (lv_at hl 1 rfl) ?_
  refine lv_iload_n X.1 X.2.1 dL_alike_10 rfl (lv_at hl 3 rfl) ?_
  refine lv_i2l (v := (nI N).toInt64) X.1 X.2.1 dL_alike_11 (by first | rfl | decide) ?_
  refine lv_iconst (v := 1) X.1 X.2.1 dL_alike_12 (by decide) ?_
  refine lv_iload_n X.1 X.2.1 dL_alike_13 rfl (lv_at hl 3 rfl) ?_
  refine lv_bipush (v := 20) X.1 X.2.1 dL_alike_14 (by decide) ?_
  refine lv_irem X.1 X.2.1 dL_alike_16 (by decide) ?_
  refine top_eq (y := (nI (N % 20))) (md (b := 20) rfl (by decide) (by omega)) ?_
  refine lv_iadd X.1 X.2.1 dL_alike_17 ?_
  refine top_eq (y := (nI (1 + (N % 20)))) (nI_add 1 (N % 20)) ?_
  refine kHL (rest := []) (As := [.ref ho, .long ((nI N).toInt64), .int (nI (1 + (N % 20)))]) X hP hD hS hl.1 o17.len (a_simulate l hst G kk (by omega) o17 ((nI N).toInt64) (nI (1 + (N % 20)))  ) sh_L_152 ⟨Nat.le_of_ble_eq_true rfl, Nat.le_of_ble_eq_true rfl, rfl, rfl⟩ ⟨by show _ ≤ 200; omega, by show _ ≤ 1200; omega⟩ rfl (Nat.le_of_ble_eq_true rfl) dL_alike_18 (fun w18 r18 H locs hΦ a18 hP hD hS => ?_)
  obtain ⟨o18, rfl⟩ := hΦ
  replace a18 := a18.trans a17
  refine lv_aload_n X.1 X.2.1 dL_alike_21 rfl (lv_at hl 2 rfl) ?_
  refine lv_iload_n X.1 X.2.1 dL_alike_22 rfl (lv_at hl 3 rfl) ?_
  refine lv_i2l (v := (nI N).toInt64) X.1 X.2.1 dL_alike_23 (by first | rfl | decide) ?_
  refine lv_iconst (v := 1) X.1 X.2.1 dL_alike_24 (by decide) ?_
  refine lv_iload_n X.1 X.2.1 dL_alike_25 rfl (lv_at hl 3 rfl) ?_
  refine lv_bipush (v := 20) X.1 X.2.1 dL_alike_26 (by decide) ?_
  refine lv_irem X.1 X.2.1 dL_alike_28 (by decide) ?_
  refine top_eq (y := (nI (N % 20))) (md (b := 20) rfl (by decide) (by omega)) ?_
  refine lv_iadd X.1 X.2.1 dL_alike_29 ?_
  refine top_eq (y := (nI (1 + (N % 20)))) (nI_add 1 (N % 20)) ?_
  refine kHR (rest := [.int (qSim σ.1 ((nI N).toInt64) (nI (1 + (N % 20))))]) (As := [.ref hq, .long ((nI N).toInt64), .int (nI (1 + (N % 20)))]) X hP hD hS hl.1 ob.len o18.len (a_simulate l hst G kk (by omega) ob ((nI N).toInt64) (nI (1 + (N % 20)))  ) sh_L_152 ⟨Nat.le_of_ble_eq_true rfl, Nat.le_of_ble_eq_true rfl, rfl, rfl⟩ ⟨by show _ ≤ 200; omega, by show _ ≤ 1200; omega⟩ rfl (Nat.le_of_ble_eq_true rfl) dL_alike_30 (fun w19 r19 H locs hΦ a19 hP hD hS => ?_)
  obtain ⟨o19, rfl⟩ := hΦ
  replace a19 := a19.trans b0
  refine lv_icmp_ne (tgt := 62) X.1 X.2.1 dL_alike_33 (by decide) (fun c_33 => absurd (rfl) c_33) (fun c_33 => ?_)
  refine lv_aload_n X.1 X.2.1 dL_alike_36 rfl (lv_at hl 1 rfl) ?_
  refine k_spareL (rest := []) X (by omega) o18 hP hD hS hl.1 vl_L_156 ⟨Nat.le_of_ble_eq_true rfl, Nat.le_of_ble_eq_true rfl, rfl, rfl⟩ ⟨by show _ ≤ 200; omega, by show _ ≤ 1200; omega⟩ rfl (Nat.le_of_ble_eq_true rfl) dL_alike_37 (fun w20 H locs o20 a20 hP hD hS => ?_)
  replace a20 := a20.trans a18
  refine lv_aload_n X.1 X.2.1 dL_alike_40 rfl (lv_at hl 2 rfl) ?_
  refine k_spareR (rest := [.int (qSpare σ.1)]) X (by omega) o19 (o20).len hP hD hS hl.1 vl_L_156 ⟨Nat.le_of_ble_eq_true rfl, Nat.le_of_ble_eq_true rfl, rfl, rfl⟩ ⟨by show _ ≤ 200; omega, by show _ ≤ 1200; omega⟩ rfl (Nat.le_of_ble_eq_true rfl) dL_alike_41 (fun w21 H locs o21 a21 hP hD hS => ?_)
  replace a21 := a21.trans a19
  refine lv_icmp_ne (tgt := 62) X.1 X.2.1 dL_alike_44 (by decide) (fun c_44 => absurd (rfl) c_44) (fun c_44 => ?_)
  refine lv_aload_n X.1 X.2.1 dL_alike_47 rfl (lv_at hl 1 rfl) ?_
  refine k_bestShutL (rest := []) X (by omega) o20 hP hD hS hl.1 vl_L_159 ⟨Nat.le_of_ble_eq_true rfl, Nat.le_of_ble_eq_true rfl, rfl, rfl⟩ ⟨by show _ ≤ 200; omega, by show _ ≤ 1200; omega⟩ rfl (Nat.le_of_ble_eq_true rfl) dL_alike_48 (fun w22 H locs o22 a22 hP hD hS => ?_)
  replace a22 := a22.trans a20
  refine lv_aload_n X.1 X.2.1 dL_alike_51 rfl (lv_at hl 2 rfl) ?_
  refine k_bestShutR (rest := [.int (qBest σ.1)]) X (by omega) o21 (o22).len hP hD hS hl.1 vl_L_159 ⟨Nat.le_of_ble_eq_true rfl, Nat.le_of_ble_eq_true rfl, rfl, rfl⟩ ⟨by show _ ≤ 200; omega, by show _ ≤ 1200; omega⟩ rfl (Nat.le_of_ble_eq_true rfl) dL_alike_52 (fun w23 H locs o23 a23 hP hD hS => ?_)
  replace a23 := a23.trans a21
  refine lv_icmp_ne (tgt := 62) X.1 X.2.1 dL_alike_55 (by decide) (fun c_55 => absurd (rfl) c_55) (fun c_55 => ?_)
  refine lv_iconst (v := 1) X.1 X.2.1 dL_alike_58 (by decide) ?_
  refine lv_goto (tgt := 63) X.1 X.2.1 dL_alike_59 (by decide) ?_
  refine lv_istore (lv' := [(4, .int 1), (3, .int (nI (mF σ.1))), (0, .ref ho), (1, .ref hq), (2, .int (nI N))]) X.1 X.2.1 dL_alike_63 hl (by decide) rfl (fun ls hl => ?_)
  refine lv_iconst (v := 0) X.1 X.2.1 dL_alike_65 (by decide) ?_
  refine lv_istore (lv' := [(5, .int 0), (4, .int 1), (3, .int (nI (mF σ.1))), (0, .ref ho), (1, .ref hq), (2, .int (nI N))]) X.1 X.2.1 dL_alike_66 hl (by decide) rfl (fun ls hl => ?_)
  have hl : lv_has ls 6 [(5, .int (nI 0)), (4, .int 1), (3, .int (nI (mF σ.1))), (0, .ref ho), (1, .ref hq), (2, .int (nI N))] := hl
  refine W.widen (k := 10 + 4 * 0) (n := 60 + 24 * 0) (by omega) (by omega) ?_
  exact L1 11 0 _ o22 a22 _ o23 a23  _ _ ls hP hD hS (lv_sub hl [3, 4, 5, 2, 1, 0] rfl) (by omega)
