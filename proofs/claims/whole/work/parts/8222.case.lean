set_option maxRecDepth 100000 in
theorem LH22_C {kk : Nat → ClassId} {h : Nat} {ad : Nat → Nat → Nat} {t : Nat} {sa : Nat} {ra : Nat} {ma : Nat → Nat → Nat} {b6 : Nat → Nat} {b7 : Nat → Nat} {mo : Nat} {b : Nat → Nat} {o : Nat} {q : Nat → Int32} {tq : Nat → Int32} {sg : Nat → Int32} {g : Nat → Int32} {u : Nat → Int32} {rv : Nat → Nat → Int32} {g4 : Nat → Int32} {u4 : Nat → Int32} {rv4 : Nat → Nat → Int32} {mq : Nat → Int32} {r : Nat → Nat} {mg : Nat → Nat → Int32} {mu : Nat → Nat → Int32} {mr : Nat → Nat → Nat → Int32} {s0 : Nat → Int32} {g6 : Nat → Int32} {u6 : Nat → Int32} {rv6 : Nat → Nat → Int32} {s1 : Nat → Int32} {g7 : Nat → Int32} {u7 : Nat → Int32} {rv7 : Nat → Nat → Int32} {qm : Nat → Int32} {tx : Nat → Int32} {f : Nat → Int32} {ft : Nat → Int32} {dy : Nat → Int32} {kp : Nat → Int32} {ik : Nat → Int32} {jb : Nat → Int32} {fo : Nat → Int64} : ([0, 31, 159, 169] ++ (List.range' 160 9 ++ (List.range' 170 9 ++ (List.range' 13 9 ++ ([187]))))).map (fun i => (LWD kk h ad t sa ra ma b6 b7 mo b o q tq sg g u rv g4 u4 rv4 mq r mg mu mr s0 g6 u6 rv6 s1 g7 u7 rv7 qm tx f ft dy kp ik jb fo)[i]?) = List.map some ([(h, .inr (7, mrG ad)), (((ad 5) 0), .inr (0, mmF ra mq)), (((ad 6) 0), .inr (4, slF (b6 0) s0)), (((ad 7) 0), .inr (4, slF (b7 0) s1))] ++ (stW kk b6 g6 u6 rv6 ++ (stW kk b7 g7 u7 rv7 ++ (stW kk (ad 3) g u rv ++ ([(o, .inl (kk 5, 1, .inr (.inl fo)))]))))) := (mp_b (mp_c LC_0 (mp_c LC_7 (mp_c LC_10 (mp_c LC_12 mp_nil)))) (mp_b LC_11 (mp_b LC_13 (mp_b LC_5 (mp_c LC_22 mp_nil)))))
set_option maxRecDepth 100000 in
theorem LH22_S {kk : Nat → ClassId} {h : Nat} {ad : Nat → Nat → Nat} {t : Nat} {sa : Nat} {ra : Nat} {ma : Nat → Nat → Nat} {b6 : Nat → Nat} {b7 : Nat → Nat} {mo : Nat} {b : Nat → Nat} {o : Nat} {q : Nat → Int32} {tq : Nat → Int32} {sg : Nat → Int32} {g : Nat → Int32} {u : Nat → Int32} {rv : Nat → Nat → Int32} {g4 : Nat → Int32} {u4 : Nat → Int32} {rv4 : Nat → Nat → Int32} {mq : Nat → Int32} {r : Nat → Nat} {mg : Nat → Nat → Int32} {mu : Nat → Nat → Int32} {mr : Nat → Nat → Nat → Int32} {s0 : Nat → Int32} {g6 : Nat → Int32} {u6 : Nat → Int32} {rv6 : Nat → Nat → Int32} {s1 : Nat → Int32} {g7 : Nat → Int32} {u7 : Nat → Int32} {rv7 : Nat → Nat → Int32} {qm : Nat → Int32} {tx : Nat → Int32} {f : Nat → Int32} {ft : Nat → Int32} {dy : Nat → Int32} {kp : Nat → Int32} {ik : Nat → Int32} {jb : Nat → Int32} {fo : Nat → Int64} {g' : Nat → Int32} {u' : Nat → Int32} {rv' : Nat → Nat → Int32} {mq' : Nat → Int32} {fo' : Nat → Int64} : setMany (LWD kk h ad t sa ra ma b6 b7 mo b o q tq sg g u rv g4 u4 rv4 mq r mg mu mr s0 g6 u6 rv6 s1 g7 u7 rv7 qm tx f ft dy kp ik jb fo) ([0, 31, 159, 169] ++ (List.range' 160 9 ++ (List.range' 170 9 ++ (List.range' 13 9 ++ ([187]))))) ([(h, .inr (7, mrG ad)), (((ad 5) 0), .inr (0, mmF ra (mq'))), (((ad 6) 0), .inr (4, slF (b6 0) s0)), (((ad 7) 0), .inr (4, slF (b7 0) s1))] ++ (stW kk b6 g6 u6 rv6 ++ (stW kk b7 g7 u7 rv7 ++ (stW kk (ad 3) (g') (u') (rv') ++ ([(o, .inl (kk 5, 1, .inr (.inl (fo'))))]))))) = LWD kk h ad t sa ra ma b6 b7 mo b o q tq sg g' u' rv' g4 u4 rv4 mq' r mg mu mr s0 g6 u6 rv6 s1 g7 u7 rv7 qm tx f ft dy kp ik jb fo' := (sm_b (sm_c LS_0 (sm_c LS_7 (sm_c LS_10 (sm_c LS_12 rfl)))) rfl (sm_b LS_11 rl_st (sm_b LS_13 rl_st (sm_b LS_5 rl_st (sm_c LS_22 rfl)))))
set_option maxRecDepth 100000 in
set_option maxHeartbeats 4000000 in
theorem lw_22 {p : Program} {l : Launch} {e : Env} {s : State} {m : MethodId} {below : List Frame} {meth : Method} {c : Code} {sb L : Nat} {xs : Nat → Int32} {G : va_G} {kk : Nat → ClassId} {A : Nat → Prop} {Q : State → Prop} {h : Nat} {ad : Nat → Nat → Nat} {t : Nat} {sa : Nat} {ra : Nat} {ma : Nat → Nat → Nat} {b6 : Nat → Nat} {b7 : Nat → Nat} {mo : Nat} {b : Nat → Nat} {o : Nat} {i4 : Int32} {B C S : Nat} (X : LX p l e s m below meth c sb L xs G kk A Q) (hB : 7200 ≤ B) (hB2 : B ≤ 60000) (hC : C + 1 ≤ 601024) (hS0 : S + 6 ≤ 7293034) (hi1 : vp_in (i4 + 1) L) (N : NXT p l e s m below meth c sb L xs G kk A Q h ad t sa ra ma b6 b7 mo b o i4 1424 (B + 60) (C + 1) (S + 6)) : NXT p l e s m below meth c sb L xs G kk A Q h ad t sa ra ma b6 b7 mo b o i4 1368 B C S := by
  intro q tq sg g u rv g4 u4 rv4 mq r mg mu mr s0 g6 u6 rv6 s1 g7 u7 rv7 qm tx f ft dy kp ik jb fo inv H locs ls hP hD hS hl
  have X0 := X
  obtain ⟨hst, hx, hb, hr, hml, hown, hts, hX, hbl, hlocks, hA, hbA, hE, hN, hK⟩ := X0
  obtain ⟨⟨sz, T⟩, ⟨cc, M⟩, S0, S1, ⟨n, sr, ok⟩, n0⟩ := inv
  obtain ⟨x, ex_x⟩ : ∃ v, v = xs (i4 + 1).toNatClampNeg := ⟨_, rfl⟩
  have hcH := c_L_restore l hst G kk h ad ra mq b6 b7 s0 g6 u6 rv6 s1 g7 u7 rv7 g u rv x o fo S0.2.2.2.1 S1.2.2.2.1
  have hcM := c_X8_restore l G kk mo b qm tx f ft dy kp ik jb x 
  obtain ⟨E, I1, I2, K⟩ := op_restore (tx := tx) (ft := ft) (jb := jb) M S0 S1 sr ok x
  generalize sX7_restore mq s0 g6 u6 rv6 s1 g7 u7 rv7 g u rv x = Z at hcH E I1 I2 K
  generalize sX8_restore qm tx f ft dy kp ik jb x = R at hcM E I1 I2 K
  have hl : lv_has ls 7 [(0, .ref sb), (1, .ref h), (2, .ref mo), (3, .ref o), (4, .int i4)] := hl
  refine lv_aload_n hx hb dL_law_1368 rfl (lv_at hl 1 rfl) ?_
  refine lv_aload_n hx hb dL_law_1369 rfl (lv_at hl 0 rfl) ?_
  refine lv_iload hx hb dL_law_1370 (lv_at hl 4 rfl) ?_
  refine lv_iconst (v := 1) hx hb dL_law_1372 (by decide) ?_
  refine lv_iadd hx hb dL_law_1373 ?_
  refine va_sld hx hb hX hbl hbA hS hi1 dL_law_1374 ?_
  rw [← ex_x]
  refine lv_aload_n hx hb dL_law_1375 rfl (lv_at hl 3 rfl) ?_
  refine k_goH (k_runH (rest := []) (As := [.ref h, .int x, .ref o]) hx hb hml hown hts hK hP hD hS hA hE hN hl.1 hcH sh_L_167 ⟨Nat.le_of_ble_eq_true rfl, Nat.le_of_ble_eq_true rfl, rfl, rfl⟩ ([0, 31, 159, 169] ++ (List.range' 160 9 ++ (List.range' 170 9 ++ (List.range' 13 9 ++ ([187]))))) (by decide +kernel) LH22_C ⟨hC, hS0⟩ rfl (Nat.le_of_ble_eq_true rfl) dL_law_1376) hP hD hS hA ([0, 31, 159, 169] ++ (List.range' 160 9 ++ (List.range' 170 9 ++ (List.range' 13 9 ++ ([187]))))) LH22_C (ads_app ads4 (ads_app st_ads (ads_app st_ads (ads_app st_ads ads1)))) (fun H locs hP hD hS => ?_)
  replace hP := vP_eq2 hP LH22_S
  replace hD := vD_eq2 hD LH22_S
  refine lv_istore (lv' := [(5, .int (h1 3 Z.1)), (0, .ref sb), (1, .ref h), (2, .ref mo), (3, .ref o), (4, .int i4)]) hx hb dL_law_1379 hl (by decide) rfl (fun ls hl => ?_)
  refine lv_aload_n hx hb dL_law_1381 rfl (lv_at hl 3 rfl) ?_
  refine lv_aload_n hx hb dL_law_1382 rfl (lv_at hl 1 rfl) ?_
  refine lv_iload hx hb dL_law_1383 (lv_at hl 5 rfl) ?_
  refine lv_iconst (v := 1) hx hb dL_law_1385 (by decide) ?_
  refine lv_iadd hx hb dL_law_1386 ?_
  refine va_sld hx hb hX hbl hbA hS hi1 dL_law_1387 ?_
  rw [← ex_x]
  refine k_goI (k_runV (rest := []) (As := [.int x]) hx hb hml hown hts hK hP hD hS hA hE hl.1 hcM vl_L_169 rfl rfl rfl ⟨Nat.le_of_ble_eq_true rfl, Nat.le_of_ble_eq_true rfl, rfl, rfl⟩ (List.range' 179 8) (by decide +kernel) LM_C ⟨hC, hS0⟩ rfl (Nat.le_of_ble_eq_true rfl) dL_law_1388) hP hD hS hA (List.range' 179 8) LM_C ads8 (fun H locs hP hD hS => ?_)
  replace hP := vP_eq2 hP LM_S
  replace hD := vD_eq2 hD LM_S
  refine lv_istore (lv' := [(6, .int R.1), (5, .int (h1 3 Z.1)), (0, .ref sb), (1, .ref h), (2, .ref mo), (3, .ref o), (4, .int i4)]) hx hb dL_law_1391 hl (by decide) rfl (fun ls hl => ?_)
  refine law_tail X hC hS0 hP hD hS hl E.1 (fun hk => (oL_at (h1_zero hk)).trans (congrArg Int32.toInt64 (E.2 (h1_zero hk)))) (fun H locs ls hP hD hS hl => ?_) dL_law_1393 dL_law_1394 dL_law_1397 dL_law_1399 dL_law_1404 dL_law_1406 dL_law_1409 dL_law_1410 dL_law_1411 dL_law_1412 dL_law_1414 dL_law_1415 dL_law_1416 dL_law_1421 (by decide)
  have hT : ∃ sz, TXT tq sg (R.2.1 2) tx sz := ⟨sz, by rw [K 2 (by decide) (by decide) (by decide)]; exact T⟩
  obtain ⟨cm, M2⟩ := I1
  have hM : ∃ cc, MEM (B + 60) cc Z.2.2.1 r mg mu mr (R.2.1 6) dy := ⟨cm, M2.mono (Nat.le_add_right B 60)⟩
  have hS0 := S0.mono (Nat.le_add_right B 60)
  have hS1 := S1.mono (Nat.le_add_right B 60)
  have hST := I2.mono (Nat.le_add_right B 60)
  have hn0 := n0
  exact N q tq sg Z.2.2.2.1 Z.2.2.2.2.1 Z.2.2.2.2.2 g4 u4 rv4 Z.2.2.1 r mg mu mr s0 g6 u6 rv6 s1 g7 u7 rv7 R.2.1 tx R.2.2 ft dy kp ik jb (oL Z.1 Z.2.1 fo) ⟨hT, hM, hS0, hS1, hST, hn0⟩ H locs ls hP hD hS hl
