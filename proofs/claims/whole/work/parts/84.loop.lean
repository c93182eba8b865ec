/-! The law's loop -/
theorem and31 (x : Int32) : ∃ j, j < 32 ∧ x &&& 31 = nI j := by
  refine ⟨x.toBitVec.toNat % 32, Nat.mod_lt _ (by decide), ?_⟩
  apply Int32.toBitVec_inj.mp
  apply BitVec.eq_of_toNat_eq
  show (x.toBitVec &&& (31 : Int32).toBitVec).toNat = (BitVec.ofNat 32 (x.toBitVec.toNat % 32)).toNat
  rw [BitVec.toNat_and, BitVec.toNat_ofNat]
  show x.toBitVec.toNat &&& 31 = _
  rw [show (31 : Nat) = 2 ^ 5 - 1 from rfl, Nat.and_two_pow_sub_one_eq_mod]
  omega
theorem lm4 {L k : Nat} (hL : L ≤ 2048) (hk : 4 * k ≤ L) (h : ¬ (Int32.ofNat L - 4 < nI (4 * k))) : 4 * k + 4 ≤ L := by
  rcases Nat.lt_or_ge L (4 * k + 4) with q | q
  · exfalso
    apply h
    rw [Int32.lt_iff_toInt_lt]
    have e1 : (nI (4 * k)).toInt = ((4 * k : Nat) : Int) := nI_toInt (by omega)
    rcases Nat.lt_or_ge L 4 with q4 | q4
    · have e2 : (Int32.ofNat L - 4).toInt < 0 := by
        clear h hk hL q e1
        rcases (show L = 0 ∨ L = 1 ∨ L = 2 ∨ L = 3 by omega) with rfl | rfl | rfl | rfl <;> decide
      omega
    · have e2 : Int32.ofNat L - 4 = nI (L - 4) := by
        have h1 : nI (L - 4) + 4 = nI L := by
          have h2 := nI_add (L - 4) 4
          rw [show L - 4 + 4 = L by omega] at h2
          exact h2
        show nI L - 4 = nI (L - 4)
        rw [← h1]
        exact Int32.add_sub_cancel _ _
      rw [e2, nI_toInt (by omega), e1]
      omega
  · exact q
theorem INV.mono {B B2 : Nat} (h : B ≤ B2) {tq : Nat → Int32} {sg : Nat → Int32} {g : Nat → Int32} {u : Nat → Int32} {rv : Nat → Nat → Int32} {rv4 : Nat → Nat → Int32} {mq : Nat → Int32} {r : Nat → Nat} {mg : Nat → Nat → Int32} {mu : Nat → Nat → Int32} {mr : Nat → Nat → Nat → Int32} {s0 : Nat → Int32} {g6 : Nat → Int32} {u6 : Nat → Int32} {rv6 : Nat → Nat → Int32} {s1 : Nat → Int32} {g7 : Nat → Int32} {u7 : Nat → Int32} {rv7 : Nat → Nat → Int32} {qm : Nat → Int32} {tx : Nat → Int32} {f : Nat → Int32} {dy : Nat → Int32} {kp : Nat → Int32} {ik : Nat → Int32} (i : INV B tq sg g u rv rv4 mq r mg mu mr s0 g6 u6 rv6 s1 g7 u7 rv7 qm tx f dy kp ik) : INV B2 tq sg g u rv rv4 mq r mg mu mr s0 g6 u6 rv6 s1 g7 u7 rv7 qm tx f dy kp ik := by
  obtain ⟨T, ⟨cc, M⟩, S0, S1, S2, n0⟩ := i
  exact ⟨T, ⟨cc, M.mono h⟩, S0.mono h, S1.mono h, S2.mono h, n0⟩
set_option maxRecDepth 100000 in
set_option maxHeartbeats 4000000 in
theorem law_disp {p : Program} {l : Launch} {e : Env} {s : State} {m : MethodId} {below : List Frame} {meth : Method} {c : Code} {sb L : Nat} {xs : Nat → Int32} {G : va_G} {kk : Nat → ClassId} {A : Nat → Prop} {Q : State → Prop} {h : Nat} {ad : Nat → Nat → Nat} {t : Nat} {sa : Nat} {ra : Nat} {ma : Nat → Nat → Nat} {b6 : Nat → Nat} {b7 : Nat → Nat} {mo : Nat} {b : Nat → Nat} {o : Nat} {i4 : Int32} {B C S : Nat} (X : LX p l e s m below meth c sb L xs G kk A Q) (hB : 7200 ≤ B) (hB2 : B ≤ 60000) (hC : C + 1 ≤ 601024) (hS0 : S + 6 ≤ 7293034) (hi0 : vp_in i4 L) (hi1 : vp_in (i4 + 1) L) (hi2 : vp_in (i4 + 2) L) (hi3 : vp_in (i4 + 3) L) (N : NXT p l e s m below meth c sb L xs G kk A Q h ad t sa ra ma b6 b7 mo b o i4 1424 (B + 60) (C + 1) (S + 6)) : NXT p l e s m below meth c sb L xs G kk A Q h ad t sa ra ma b6 b7 mo b o i4 32 B C S := by
  intro q tq sg g u rv g4 u4 rv4 mq r mg mu mr s0 g6 u6 rv6 s1 g7 u7 rv7 qm tx f ft dy kp ik jb fo inv H locs ls hP hD hS hl
  have X0 := X
  obtain ⟨hst, hx, hb, hr, hml, hown, hts, hX, hbl, hlocks, hA, hbA, hE, hN, hK⟩ := X0
  refine lv_aload_n hx hb dL_law_32 rfl (lv_at hl 0 rfl) ?_
  refine lv_iload hx hb dL_law_33 (lv_at hl 4 rfl) ?_
  refine va_sld hx hb hX hbl hbA hS hi0 dL_law_35 ?_
  refine lv_bipush (v := 31) hx hb dL_law_36 (by decide) ?_
  refine lv_iand hx hb dL_law_38 ?_
  obtain ⟨j, hj, ej⟩ := and31 (xs i4.toNatClampNeg)
  rw [ej]
  rcases Nat.lt_or_ge j 23 with hj2 | hj2
  · rcases (show j = 0 ∨ j = 1 ∨ j = 2 ∨ j = 3 ∨ j = 4 ∨ j = 5 ∨ j = 6 ∨ j = 7 ∨ j = 8 ∨ j = 9 ∨ j = 10 ∨ j = 11 ∨ j = 12 ∨ j = 13 ∨ j = 14 ∨ j = 15 ∨ j = 16 ∨ j = 17 ∨ j = 18 ∨ j = 19 ∨ j = 20 ∨ j = 21 ∨ j = 22 by omega) with rfl | rfl | rfl | rfl | rfl | rfl | rfl | rfl | rfl | rfl | rfl | rfl | rfl | rfl | rfl | rfl | rfl | rfl | rfl | rfl | rfl | rfl | rfl
    · exact lv_tableIn (off := 105) (tgt := 144) hx hb dL_law_39 (by decide) (by decide) (by decide +kernel) (by decide) (lw_0 X hB hB2 hC hS0 hi1 N q tq sg g u rv g4 u4 rv4 mq r mg mu mr s0 g6 u6 rv6 s1 g7 u7 rv7 qm tx f ft dy kp ik jb fo inv H locs ls hP hD hS hl)
    · exact lv_tableIn (off := 161) (tgt := 200) hx hb dL_law_39 (by decide) (by decide) (by decide +kernel) (by decide) (lw_1 X hB hB2 hC hS0  N q tq sg g u rv g4 u4 rv4 mq r mg mu mr s0 g6 u6 rv6 s1 g7 u7 rv7 qm tx f ft dy kp ik jb fo inv H locs ls hP hD hS hl)
    · exact lv_tableIn (off := 174) (tgt := 213) hx hb dL_law_39 (by decide) (by decide) (by decide +kernel) (by decide) (lw_2 X hB hB2 hC hS0  N q tq sg g u rv g4 u4 rv4 mq r mg mu mr s0 g6 u6 rv6 s1 g7 u7 rv7 qm tx f ft dy kp ik jb fo inv H locs ls hP hD hS hl)
    · exact lv_tableIn (off := 187) (tgt := 226) hx hb dL_law_39 (by decide) (by decide) (by decide +kernel) (by decide) (lw_3 X hB hB2 hC hS0  N q tq sg g u rv g4 u4 rv4 mq r mg mu mr s0 g6 u6 rv6 s1 g7 u7 rv7 qm tx f ft dy kp ik jb fo inv H locs ls hP hD hS hl)
    · exact lv_tableIn (off := 231) (tgt := 270) hx hb dL_law_39 (by decide) (by decide) (by decide +kernel) (by decide) (lw_4 X hB hB2 hC hS0 hi1 N q tq sg g u rv g4 u4 rv4 mq r mg mu mr s0 g6 u6 rv6 s1 g7 u7 rv7 qm tx f ft dy kp ik jb fo inv H locs ls hP hD hS hl)
    · exact lv_tableIn (off := 287) (tgt := 326) hx hb dL_law_39 (by decide) (by decide) (by decide +kernel) (by decide) (lw_5 X hB hB2 hC hS0 hi1 hi2 N q tq sg g u rv g4 u4 rv4 mq r mg mu mr s0 g6 u6 rv6 s1 g7 u7 rv7 qm tx f ft dy kp ik jb fo inv H locs ls hP hD hS hl)
    · exact lv_tableIn (off := 355) (tgt := 394) hx hb dL_law_39 (by decide) (by decide) (by decide +kernel) (by decide) (lw_6 X hB hB2 hC hS0 hi1 N q tq sg g u rv g4 u4 rv4 mq r mg mu mr s0 g6 u6 rv6 s1 g7 u7 rv7 qm tx f ft dy kp ik jb fo inv H locs ls hP hD hS hl)
    · exact lv_tableIn (off := 411) (tgt := 450) hx hb dL_law_39 (by decide) (by decide) (by decide +kernel) (by decide) (lw_7 X hB hB2 hC hS0 hi1 N q tq sg g u rv g4 u4 rv4 mq r mg mu mr s0 g6 u6 rv6 s1 g7 u7 rv7 qm tx f ft dy kp ik jb fo inv H locs ls hP hD hS hl)
    · exact lv_tableIn (off := 467) (tgt := 506) hx hb dL_law_39 (by decide) (by decide) (by decide +kernel) (by decide) (lw_8 X hB hB2 hC hS0 hi1 hi2 hi3 N q tq sg g u rv g4 u4 rv4 mq r mg mu mr s0 g6 u6 rv6 s1 g7 u7 rv7 qm tx f ft dy kp ik jb fo inv H locs ls hP hD hS hl)
    · exact lv_tableIn (off := 547) (tgt := 586) hx hb dL_law_39 (by decide) (by decide) (by decide +kernel) (by decide) (lw_9 X hB hB2 hC hS0 hi1 hi2 N q tq sg g u rv g4 u4 rv4 mq r mg mu mr s0 g6 u6 rv6 s1 g7 u7 rv7 qm tx f ft dy kp ik jb fo inv H locs ls hP hD hS hl)
    · exact lv_tableIn (off := 631) (tgt := 670) hx hb dL_law_39 (by decide) (by decide) (by decide +kernel) (by decide) (lw_10 X hB hB2 hC hS0 hi1 hi2 N q tq sg g u rv g4 u4 rv4 mq r mg mu mr s0 g6 u6 rv6 s1 g7 u7 rv7 qm tx f ft dy kp ik jb fo inv H locs ls hP hD hS hl)
    · exact lv_tableIn (off := 699) (tgt := 738) hx hb dL_law_39 (by decide) (by decide) (by decide +kernel) (by decide) (lw_11 X hB hB2 hC hS0 hi1 N q tq sg g u rv g4 u4 rv4 mq r mg mu mr s0 g6 u6 rv6 s1 g7 u7 rv7 qm tx f ft dy kp ik jb fo inv H locs ls hP hD hS hl)
    · exact lv_tableIn (off := 755) (tgt := 794) hx hb dL_law_39 (by decide) (by decide) (by decide +kernel) (by decide) (lw_12 X hB hB2 hC hS0 hi1 hi2 N q tq sg g u rv g4 u4 rv4 mq r mg mu mr s0 g6 u6 rv6 s1 g7 u7 rv7 qm tx f ft dy kp ik jb fo inv H locs ls hP hD hS hl)
    · exact lv_tableIn (off := 823) (tgt := 862) hx hb dL_law_39 (by decide) (by decide) (by decide +kernel) (by decide) (lw_13 X hB hB2 hC hS0  N q tq sg g u rv g4 u4 rv4 mq r mg mu mr s0 g6 u6 rv6 s1 g7 u7 rv7 qm tx f ft dy kp ik jb fo inv H locs ls hP hD hS hl)
    · exact lv_tableIn (off := 867) (tgt := 906) hx hb dL_law_39 (by decide) (by decide) (by decide +kernel) (by decide) (lw_14 X hB hB2 hC hS0  N q tq sg g u rv g4 u4 rv4 mq r mg mu mr s0 g6 u6 rv6 s1 g7 u7 rv7 qm tx f ft dy kp ik jb fo inv H locs ls hP hD hS hl)
    · exact lv_tableIn (off := 880) (tgt := 919) hx hb dL_law_39 (by decide) (by decide) (by decide +kernel) (by decide) (lw_15 X hB hB2 hC hS0 hi1 N q tq sg g u rv g4 u4 rv4 mq r mg mu mr s0 g6 u6 rv6 s1 g7 u7 rv7 qm tx f ft dy kp ik jb fo inv H locs ls hP hD hS hl)
    · exact lv_tableIn (off := 936) (tgt := 975) hx hb dL_law_39 (by decide) (by decide) (by decide +kernel) (by decide) (lw_16 X hB hB2 hC hS0 hi1 hi2 N q tq sg g u rv g4 u4 rv4 mq r mg mu mr s0 g6 u6 rv6 s1 g7 u7 rv7 qm tx f ft dy kp ik jb fo inv H locs ls hP hD hS hl)
    · exact lv_tableIn (off := 1004) (tgt := 1043) hx hb dL_law_39 (by decide) (by decide) (by decide +kernel) (by decide) (lw_17 X hB hB2 hC hS0 hi1 N q tq sg g u rv g4 u4 rv4 mq r mg mu mr s0 g6 u6 rv6 s1 g7 u7 rv7 qm tx f ft dy kp ik jb fo inv H locs ls hP hD hS hl)
    · exact lv_tableIn (off := 1060) (tgt := 1099) hx hb dL_law_39 (by decide) (by decide) (by decide +kernel) (by decide) (lw_18 X hB hB2 hC hS0  N q tq sg g u rv g4 u4 rv4 mq r mg mu mr s0 g6 u6 rv6 s1 g7 u7 rv7 qm tx f ft dy kp ik jb fo inv H locs ls hP hD hS hl)
    · exact lv_tableIn (off := 1073) (tgt := 1112) hx hb dL_law_39 (by decide) (by decide) (by decide +kernel) (by decide) (lw_19 X hB hB2 hC hS0 hi1 hi2 hi3 N q tq sg g u rv g4 u4 rv4 mq r mg mu mr s0 g6 u6 rv6 s1 g7 u7 rv7 qm tx f ft dy kp ik jb fo inv H locs ls hP hD hS hl)
    · exact lv_tableIn (off := 1173) (tgt := 1212) hx hb dL_law_39 (by decide) (by decide) (by decide +kernel) (by decide) (lw_20 X hB hB2 hC hS0 hi1 hi2 hi3 N q tq sg g u rv g4 u4 rv4 mq r mg mu mr s0 g6 u6 rv6 s1 g7 u7 rv7 qm tx f ft dy kp ik jb fo inv H locs ls hP hD hS hl)
    · exact lv_tableIn (off := 1273) (tgt := 1312) hx hb dL_law_39 (by decide) (by decide) (by decide +kernel) (by decide) (lw_21 X hB hB2 hC hS0 hi1 N q tq sg g u rv g4 u4 rv4 mq r mg mu mr s0 g6 u6 rv6 s1 g7 u7 rv7 qm tx f ft dy kp ik jb fo inv H locs ls hP hD hS hl)
    · exact lv_tableIn (off := 1329) (tgt := 1368) hx hb dL_law_39 (by decide) (by decide) (by decide +kernel) (by decide) (lw_22 X hB hB2 hC hS0 hi1 N q tq sg g u rv g4 u4 rv4 mq r mg mu mr s0 g6 u6 rv6 s1 g7 u7 rv7 qm tx f ft dy kp ik jb fo inv H locs ls hP hD hS hl)
  · refine lv_tableOut (tgt := 1424) hx hb dL_law_39 (Or.inr ?_) (by decide) ?_
    · rw [nI_toInt (by omega)]
      omega
    · refine W.widen (k := C + 1) (n := S + 6) (by omega) (by omega) ?_
      exact N q tq sg g u rv g4 u4 rv4 mq r mg mu mr s0 g6 u6 rv6 s1 g7 u7 rv7 qm tx f ft dy kp ik jb fo (inv.mono (by omega)) H locs ls hP hD hS hl
set_option maxRecDepth 100000 in
set_option maxHeartbeats 4000000 in
theorem law_loop {p : Program} {l : Launch} {e : Env} {s : State} {m : MethodId} {below : List Frame} {meth : Method} {c : Code} {sb L : Nat} {xs : Nat → Int32} {G : va_G} {kk : Nat → ClassId} {A : Nat → Prop} {Q : State → Prop} {h : Nat} {ad : Nat → Nat → Nat} {t : Nat} {sa : Nat} {ra : Nat} {ma : Nat → Nat → Nat} {b6 : Nat → Nat} {b7 : Nat → Nat} {mo : Nat} {b : Nat → Nat} {o : Nat} (hL : L ≤ 2048) (X : LX p l e s m below meth c sb L xs G kk A Q) (hE1 : ∀ (H : Heap) (locs : List Loc) (ls : Array Slot) (C S : Nat), va_S A s.heap H locs → C ≤ 601024 → S ≤ 7293034 → W p l e room_1 s m #[Value.ref sb] below meth c H locs C S Q (F0 m 1430 ls [])) : ∀ (n k : Nat), 4 * k ≤ L → L < 4 * (k + n) + 4 → NXT p l e s m below meth c sb L xs G kk A Q h ad t sa ra ma b6 b7 mo b o (nI (4 * k)) 23 (7200 + 60 * k) (188 + k) (3028 + 6 * k) := by
  obtain ⟨hst, hx, hb, hr, hml, hown, hts, hX, hbl, hlocks, hA, hbA, hE, hN, hK⟩ := id X
  intro n
  induction n with
  | zero =>
    intro k hk hn
    intro q tq sg g u rv g4 u4 rv4 mq r mg mu mr s0 g6 u6 rv6 s1 g7 u7 rv7 qm tx f ft dy kp ik jb fo inv H locs ls hP hD hS hl
    refine lv_iload hx hb dL_law_23 (lv_at hl 4 rfl) ?_
    refine lv_aload_n hx hb dL_law_25 rfl (lv_at hl 0 rfl) ?_
    refine va_slen hx hb hX hbl hbA hS dL_law_26 ?_
    refine lv_iconst (v := 4) hx hb dL_law_27 (by decide) ?_
    refine lv_isub hx hb dL_law_28 ?_
    refine lv_icmp_gt (tgt := 1430) hx hb dL_law_29 (by decide) (fun _ => hE1 H locs ls _ _ hS (by omega) (by omega)) (fun hc => ?_)
    have h4 := lm4 hL hk hc
    exact absurd hn (by omega)
  | succ n ih =>
    intro k hk hn
    intro q tq sg g u rv g4 u4 rv4 mq r mg mu mr s0 g6 u6 rv6 s1 g7 u7 rv7 qm tx f ft dy kp ik jb fo inv H locs ls hP hD hS hl
    refine lv_iload hx hb dL_law_23 (lv_at hl 4 rfl) ?_
    refine lv_aload_n hx hb dL_law_25 rfl (lv_at hl 0 rfl) ?_
    refine va_slen hx hb hX hbl hbA hS dL_law_26 ?_
    refine lv_iconst (v := 4) hx hb dL_law_27 (by decide) ?_
    refine lv_isub hx hb dL_law_28 ?_
    refine lv_icmp_gt (tgt := 1430) hx hb dL_law_29 (by decide) (fun _ => hE1 H locs ls _ _ hS (by omega) (by omega)) (fun hc => ?_)
    have h4 := lm4 hL hk hc
    have ih2 := ih (k + 1) (by omega) (by omega)
    rw [show 7200 + 60 * (k + 1) = 7200 + 60 * k + 60 by omega, show 188 + (k + 1) = 188 + k + 1 by omega, show 3028 + 6 * (k + 1) = 3028 + 6 * k + 6 by omega] at ih2
    refine law_disp X (by omega) (by omega) (by omega) (by omega) (ix_in rfl (show 4 * k < L by omega) (by omega)) (ix_in (nI_add (4 * k) 1) (show 4 * k + 1 < L by omega) (by omega)) (ix_in (nI_add (4 * k) 2) (show 4 * k + 2 < L by omega) (by omega)) (ix_in (nI_add (4 * k) 3) (show 4 * k + 3 < L by omega) (by omega)) ?_ q tq sg g u rv g4 u4 rv4 mq r mg mu mr s0 g6 u6 rv6 s1 g7 u7 rv7 qm tx f ft dy kp ik jb fo inv H locs ls hP hD hS hl
    intro q tq sg g u rv g4 u4 rv4 mq r mg mu mr s0 g6 u6 rv6 s1 g7 u7 rv7 qm tx f ft dy kp ik jb fo inv H locs ls hP hD hS hl
    refine lv_iinc (v := nI (4 * (k + 1))) (lv' := [(4, .int (nI (4 * (k + 1)))), (0, .ref sb), (1, .ref h), (2, .ref mo), (3, .ref o)]) hx hb dL_law_1424 hl (k := 4) rfl (nI_add (4 * k) 4) (by decide) rfl (fun ls hl => ?_)
    refine lv_goto (tgt := 23) hx hb dL_law_1427 (by decide) ?_
    exact ih2 q tq sg g u rv g4 u4 rv4 mq r mg mu mr s0 g6 u6 rv6 s1 g7 u7 rv7 qm tx f ft dy kp ik jb fo inv H locs ls hP hD hS (lv_sub hl [1, 2, 3, 4, 0] rfl)
