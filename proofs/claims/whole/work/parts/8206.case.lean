set_option maxRecDepth 100000 in
theorem LH6_C {kk : Nat → ClassId} {h : Nat} {ad : Nat → Nat → Nat} {t : Nat} {sa : Nat} {ra : Nat} {ma : Nat → Nat → Nat} {b6 : Nat → Nat} {b7 : Nat → Nat} {mo : Nat} {b : Nat → Nat} {o : Nat} {q : Nat → Int32} {tq : Nat → Int32} {sg : Nat → Int32} {g : Nat → Int32} {u : Nat → Int32} {rv : Nat → Nat → Int32} {g4 : Nat → Int32} {u4 : Nat → Int32} {rv4 : Nat → Nat → Int32} {mq : Nat → Int32} {r : Nat → Nat} {mg : Nat → Nat → Int32} {mu : Nat → Nat → Int32} {mr : Nat → Nat → Nat → Int32} {s0 : Nat → Int32} {g6 : Nat → Int32} {u6 : Nat → Int32} {rv6 : Nat → Nat → Int32} {s1 : Nat → Int32} {g7 : Nat → Int32} {u7 : Nat → Int32} {rv7 : Nat → Nat → Int32} {qm : Nat → Int32} {tx : Nat → Int32} {f : Nat → Int32} {ft : Nat → Int32} {dy : Nat → Int32} {kp : Nat → Int32} {ik : Nat → Int32} {jb : Nat → Int32} {fo : Nat → Int64} : ([0] ++ (List.range' 13 9 ++ ([187]))).map (fun i => (LWD kk h ad t sa ra ma b6 b7 mo b o q tq sg g u rv g4 u4 rv4 mq r mg mu mr s0 g6 u6 rv6 s1 g7 u7 rv7 qm tx f ft dy kp ik jb fo)[i]?) = List.map some ([(h, .inr (7, mrG ad))] ++ (stW kk (ad 3) g u rv ++ ([(o, .inl (kk 5, 1, .inr (.inl fo)))]))) := (mp_b (mp_c LC_0 mp_nil) (mp_b LC_5 (mp_c LC_22 mp_nil)))
set_option maxRecDepth 100000 in
theorem LH6_S {kk : Nat → ClassId} {h : Nat} {ad : Nat → Nat → Nat} {t : Nat} {sa : Nat} {ra : Nat} {ma : Nat → Nat → Nat} {b6 : Nat → Nat} {b7 : Nat → Nat} {mo : Nat} {b : Nat → Nat} {o : Nat} {q : Nat → Int32} {tq : Nat → Int32} {sg : Nat → Int32} {g : Nat → Int32} {u : Nat → Int32} {rv : Nat → Nat → Int32} {g4 : Nat → Int32} {u4 : Nat → Int32} {rv4 : Nat → Nat → Int32} {mq : Nat → Int32} {r : Nat → Nat} {mg : Nat → Nat → Int32} {mu : Nat → Nat → Int32} {mr : Nat → Nat → Nat → Int32} {s0 : Nat → Int32} {g6 : Nat → Int32} {u6 : Nat → Int32} {rv6 : Nat → Nat → Int32} {s1 : Nat → Int32} {g7 : Nat → Int32} {u7 : Nat → Int32} {rv7 : Nat → Nat → Int32} {qm : Nat → Int32} {tx : Nat → Int32} {f : Nat → Int32} {ft : Nat → Int32} {dy : Nat → Int32} {kp : Nat → Int32} {ik : Nat → Int32} {jb : Nat → Int32} {fo : Nat → Int64} {rv' : Nat → Nat → Int32} {fo' : Nat → Int64} : setMany (LWD kk h ad t sa ra ma b6 b7 mo b o q tq sg g u rv g4 u4 rv4 mq r mg mu mr s0 g6 u6 rv6 s1 g7 u7 rv7 qm tx f ft dy kp ik jb fo) ([0] ++ (List.range' 13 9 ++ ([187]))) ([(h, .inr (7, mrG ad))] ++ (stW kk (ad 3) g u (rv') ++ ([(o, .inl (kk 5, 1, .inr (.inl (fo'))))]))) = LWD kk h ad t sa ra ma b6 b7 mo b o q tq sg g u rv' g4 u4 rv4 mq r mg mu mr s0 g6 u6 rv6 s1 g7 u7 rv7 qm tx f ft dy kp ik jb fo' := (sm_b (sm_c LS_0 rfl) rfl (sm_b LS_5 rl_st (sm_c LS_22 rfl)))
set_option maxRecDepth 100000 in
set_option maxHeartbeats 4000000 in
theorem lw_6 {p : Program} {l : Launch} {e : Env} {s : State} {m : MethodId} {below : List Frame} {meth : Method} {c : Code} {sb L : Nat} {xs : Nat → Int32} {G : va_G} {kk : Nat → ClassId} {A : Nat → Prop} {Q : State → Prop} {h : Nat} {ad : Nat → Nat → Nat} {t : Nat} {sa : Nat} {ra : Nat} {ma : Nat → Nat → Nat} {b6 : Nat → Nat} {b7 : Nat → Nat} {mo : Nat} {b : Nat → Nat} {o : Nat} {i4 : Int32} {B C S : Nat} (X : LX p l e s m below meth c sb L xs G kk A Q) (hB : 7200 ≤ B) (hB2 : B ≤ 60000) (hC : C + 1 ≤ 601024) (hS0 : S + 6 ≤ 7293034) (hi1 : vp_in (i4 + 1) L) (N : NXT p l e s m below meth c sb L xs G kk A Q h ad t sa ra ma b6 b7 mo b o i4 1424 (B + 60) (C + 1) (S + 6)) : NXT p l e s m below meth c sb L xs G kk A Q h ad t sa ra ma b6 b7 mo b o i4 394 B C S := by
  intro q tq sg g u rv g4 u4 rv4 mq r mg mu mr s0 g6 u6 rv6 s1 g7 u7 rv7 qm tx f ft dy kp ik jb fo inv H locs ls hP hD hS hl
  have X0 := X
  obtain ⟨hst, hx, hb, hr, hml, hown, hts, hX, hbl, hlocks, hA, hbA, hE, hN, hK⟩ := X0
  obtain ⟨⟨sz, T⟩, ⟨cc, M⟩, S0, S1, ⟨n, sr, ok⟩, n0⟩ := inv
  obtain ⟨x, ex_x⟩ : ∃ v, v = xs (i4 + 1).toNatClampNeg := ⟨_, rfl⟩
  have hcH := c_L_does l hst G kk h ad g u rv x o fo 
  have hcM := c_X8_does l G kk mo b qm tx f ft dy kp ik jb n x ok.2.1 ok.1
  obtain ⟨E, I2, K⟩ := op_does (q := qm) (tx := tx) (ft := ft) (dy := dy) (kp := kp) (ik := ik) (jb := jb) (by omega) sr ok x
  generalize sX7_does g u rv x = Z at hcH E I2 K
  generalize sX8_does qm tx f ft dy kp ik jb n x = R at hcM E I2 K
  have hl : lv_has ls 7 [(0, .ref sb), (1, .ref h), (2, .ref mo), (3, .ref o), (4, .int i4)] := hl
  refine lv_aload_n hx hb dL_law_394 rfl (lv_at hl 1 rfl) ?_
  refine lv_aload_n hx hb dL_law_395 rfl (lv_at hl 0 rfl) ?_
  refine lv_iload hx hb dL_law_396 (lv_at hl 4 rfl) ?_
  refine lv_iconst (v := 1) hx hb dL_law_398 (by decide) ?_
  refine lv_iadd hx hb dL_law_399 ?_
  refine va_sld hx hb hX hbl hbA hS hi1 dL_law_400 ?_
  rw [← ex_x]
  refine lv_aload_n hx hb dL_law_401 rfl (lv_at hl 3 rfl) ?_
  refine k_goH (k_runH (rest := []) (As := [.ref h, .int x, .ref o]) hx hb hml hown hts hK hP hD hS hA hE hN hl.1 hcH sh_L_111 ⟨Nat.le_of_ble_eq_true rfl, Nat.le_of_ble_eq_true rfl, rfl, rfl⟩ ([0] ++ (List.range' 13 9 ++ ([187]))) (by decide +kernel) LH6_C ⟨hC, hS0⟩ rfl (Nat.le_of_ble_eq_true rfl) dL_law_402) hP hD hS hA ([0] ++ (List.range' 13 9 ++ ([187]))) LH6_C (ads_app ads1 (ads_app st_ads ads1)) (fun H locs hP hD hS => ?_)
  replace hP := vP_eq2 hP LH6_S
  replace hD := vD_eq2 hD LH6_S
  refine lv_istore (lv' := [(5, .int (h1 3 Z.1)), (0, .ref sb), (1, .ref h), (2, .ref mo), (3, .ref o), (4, .int i4)]) hx hb dL_law_405 hl (by decide) rfl (fun ls hl => ?_)
  refine lv_aload_n hx hb dL_law_407 rfl (lv_at hl 3 rfl) ?_
  refine lv_aload_n hx hb dL_law_408 rfl (lv_at hl 1 rfl) ?_
  refine lv_iload hx hb dL_law_409 (lv_at hl 5 rfl) ?_
  refine lv_iconst (v := 1) hx hb dL_law_411 (by decide) ?_
  refine lv_iadd hx hb dL_law_412 ?_
  refine va_sld hx hb hX hbl hbA hS hi1 dL_law_413 ?_
  rw [← ex_x]
  refine k_goI (k_runV (rest := []) (As := [.int x]) hx hb hml hown hts hK hP hD hS hA hE hl.1 hcM vl_L_113 rfl rfl rfl ⟨Nat.le_of_ble_eq_true rfl, Nat.le_of_ble_eq_true rfl, rfl, rfl⟩ (List.range' 179 8) (by decide +kernel) LM_C ⟨hC, hS0⟩ rfl (Nat.le_of_ble_eq_true rfl) dL_law_414) hP hD hS hA (List.range' 179 8) LM_C ads8 (fun H locs hP hD hS => ?_)
  replace hP := vP_eq2 hP LM_S
  replace hD := vD_eq2 hD LM_S
  refine lv_istore (lv' := [(6, .int R.1), (5, .int (h1 3 Z.1)), (0, .ref sb), (1, .ref h), (2, .ref mo), (3, .ref o), (4, .int i4)]) hx hb dL_law_417 hl (by decide) rfl (fun ls hl => ?_)
  refine law_tail X hC hS0 hP hD hS hl E.1 (fun hk => (oL_at (h1_zero hk)).trans (congrArg Int32.toInt64 (E.2 (h1_zero hk)))) (fun H locs ls hP hD hS hl => ?_) dL_law_419 dL_law_420 dL_law_423 dL_law_425 dL_law_430 dL_law_432 dL_law_435 dL_law_436 dL_law_437 dL_law_438 dL_law_440 dL_law_441 dL_law_442 dL_law_447 (by decide)
  have hT : ∃ sz, TXT tq sg (R.2.1 2) tx sz := ⟨sz, by rw [K 2 (by decide) (by decide)]; exact T⟩
  have hM : ∃ cc, MEM (B + 60) cc mq r mg mu mr (R.2.1 6) dy := ⟨cc, by rw [K 6 (by decide) (by decide)]; exact M.mono (Nat.le_add_right _ _)⟩
  have hS0 := S0.mono (Nat.le_add_right B 60)
  have hS1 := S1.mono (Nat.le_add_right B 60)
  have hST : ST (B + 60) f g u Z.2.2 := ⟨n, I2, ok.mono (Nat.le_add_right _ _)⟩
  have hn0 := n0
  exact N q tq sg g u Z.2.2 g4 u4 rv4 mq r mg mu mr s0 g6 u6 rv6 s1 g7 u7 rv7 R.2.1 tx f ft dy kp ik R.2.2 (oL Z.1 Z.2.1 fo) ⟨hT, hM, hS0, hS1, hST, hn0⟩ H locs ls hP hD hS hl
