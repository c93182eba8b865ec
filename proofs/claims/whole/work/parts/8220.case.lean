set_option maxRecDepth 100000 in
theorem LH20_C {kk : Nat → ClassId} {h : Nat} {ad : Nat → Nat → Nat} {t : Nat} {sa : Nat} {ra : Nat} {ma : Nat → Nat → Nat} {b6 : Nat → Nat} {b7 : Nat → Nat} {mo : Nat} {b : Nat → Nat} {o : Nat} {q : Nat → Int32} {tq : Nat → Int32} {sg : Nat → Int32} {g : Nat → Int32} {u : Nat → Int32} {rv : Nat → Nat → Int32} {g4 : Nat → Int32} {u4 : Nat → Int32} {rv4 : Nat → Nat → Int32} {mq : Nat → Int32} {r : Nat → Nat} {mg : Nat → Nat → Int32} {mu : Nat → Nat → Int32} {mr : Nat → Nat → Nat → Int32} {s0 : Nat → Int32} {g6 : Nat → Int32} {u6 : Nat → Int32} {rv6 : Nat → Nat → Int32} {s1 : Nat → Int32} {g7 : Nat → Int32} {u7 : Nat → Int32} {rv7 : Nat → Nat → Int32} {qm : Nat → Int32} {tx : Nat → Int32} {f : Nat → Int32} {ft : Nat → Int32} {dy : Nat → Int32} {kp : Nat → Int32} {ik : Nat → Int32} {jb : Nat → Int32} {fo : Nat → Int64} : ([0] ++ (List.range' 22 9 ++ (List.range' 13 9 ++ ([187])))).map (fun i => (LWD kk h ad t sa ra ma b6 b7 mo b o q tq sg g u rv g4 u4 rv4 mq r mg mu mr s0 g6 u6 rv6 s1 g7 u7 rv7 qm tx f ft dy kp ik jb fo)[i]?) = List.map some ([(h, .inr (7, mrG ad))] ++ (stW kk (ad 4) g4 u4 rv4 ++ (stW kk (ad 3) g u rv ++ ([(o, .inl (kk 5, 1, .inr (.inl fo)))])))) := (mp_b (mp_c LC_0 mp_nil) (mp_b LC_6 (mp_b LC_5 (mp_c LC_22 mp_nil))))
set_option maxRecDepth 100000 in
theorem LH20_S {kk : Nat → ClassId} {h : Nat} {ad : Nat → Nat → Nat} {t : Nat} {sa : Nat} {ra : Nat} {ma : Nat → Nat → Nat} {b6 : Nat → Nat} {b7 : Nat → Nat} {mo : Nat} {b : Nat → Nat} {o : Nat} {q : Nat → Int32} {tq : Nat → Int32} {sg : Nat → Int32} {g : Nat → Int32} {u : Nat → Int32} {rv : Nat → Nat → Int32} {g4 : Nat → Int32} {u4 : Nat → Int32} {rv4 : Nat → Nat → Int32} {mq : Nat → Int32} {r : Nat → Nat} {mg : Nat → Nat → Int32} {mu : Nat → Nat → Int32} {mr : Nat → Nat → Nat → Int32} {s0 : Nat → Int32} {g6 : Nat → Int32} {u6 : Nat → Int32} {rv6 : Nat → Nat → Int32} {s1 : Nat → Int32} {g7 : Nat → Int32} {u7 : Nat → Int32} {rv7 : Nat → Nat → Int32} {qm : Nat → Int32} {tx : Nat → Int32} {f : Nat → Int32} {ft : Nat → Int32} {dy : Nat → Int32} {kp : Nat → Int32} {ik : Nat → Int32} {jb : Nat → Int32} {fo : Nat → Int64} {g4' : Nat → Int32} {u4' : Nat → Int32} {rv4' : Nat → Nat → Int32} {fo' : Nat → Int64} : setMany (LWD kk h ad t sa ra ma b6 b7 mo b o q tq sg g u rv g4 u4 rv4 mq r mg mu mr s0 g6 u6 rv6 s1 g7 u7 rv7 qm tx f ft dy kp ik jb fo) ([0] ++ (List.range' 22 9 ++ (List.range' 13 9 ++ ([187])))) ([(h, .inr (7, mrG ad))] ++ (stW kk (ad 4) (g4') (u4') (rv4') ++ (stW kk (ad 3) g u rv ++ ([(o, .inl (kk 5, 1, .inr (.inl (fo'))))])))) = LWD kk h ad t sa ra ma b6 b7 mo b o q tq sg g u rv g4' u4' rv4' mq r mg mu mr s0 g6 u6 rv6 s1 g7 u7 rv7 qm tx f ft dy kp ik jb fo' := (sm_b (sm_c LS_0 rfl) rfl (sm_b LS_6 rl_st (sm_b LS_5 rl_st (sm_c LS_22 rfl))))
set_option maxRecDepth 100000 in
set_option maxHeartbeats 4000000 in
theorem lw_20 {p : Program} {l : Launch} {e : Env} {s : State} {m : MethodId} {below : List Frame} {meth : Method} {c : Code} {sb L : Nat} {xs : Nat → Int32} {G : va_G} {kk : Nat → ClassId} {A : Nat → Prop} {Q : State → Prop} {h : Nat} {ad : Nat → Nat → Nat} {t : Nat} {sa : Nat} {ra : Nat} {ma : Nat → Nat → Nat} {b6 : Nat → Nat} {b7 : Nat → Nat} {mo : Nat} {b : Nat → Nat} {o : Nat} {i4 : Int32} {B C S : Nat} (X : LX p l e s m below meth c sb L xs G kk A Q) (hB : 7200 ≤ B) (hB2 : B ≤ 60000) (hC : C + 1 ≤ 601024) (hS0 : S + 6 ≤ 7293034) (hi1 : vp_in (i4 + 1) L) (hi2 : vp_in (i4 + 2) L) (hi3 : vp_in (i4 + 3) L) (N : NXT p l e s m below meth c sb L xs G kk A Q h ad t sa ra ma b6 b7 mo b o i4 1424 (B + 60) (C + 1) (S + 6)) : NXT p l e s m below meth c sb L xs G kk A Q h ad t sa ra ma b6 b7 mo b o i4 1212 B C S := by
  intro q tq sg g u rv g4 u4 rv4 mq r mg mu mr s0 g6 u6 rv6 s1 g7 u7 rv7 qm tx f ft dy kp ik jb fo inv H locs ls hP hD hS hl
  have X0 := X
  obtain ⟨hst, hx, hb, hr, hml, hown, hts, hX, hbl, hlocks, hA, hbA, hE, hN, hK⟩ := X0
  obtain ⟨⟨sz, T⟩, ⟨cc, M⟩, S0, S1, ⟨n, sr, ok⟩, n0⟩ := inv
  obtain ⟨x, ex_x⟩ : ∃ v, v = xs (i4 + 1).toNatClampNeg := ⟨_, rfl⟩
  obtain ⟨y, ex_y⟩ : ∃ v, v = xs (i4 + 2).toNatClampNeg := ⟨_, rfl⟩
  obtain ⟨z, ex_z⟩ : ∃ v, v = xs (i4 + 3).toNatClampNeg := ⟨_, rfl⟩
  obtain ⟨sd, ex_sd⟩ : ∃ v, v = ((xs (i4 + 1).toNatClampNeg).toInt64 <<< 32) ||| ((xs (i4 + 2).toNatClampNeg).toInt64 &&& 4294967295) := ⟨_, rfl⟩
  have hcH := c_L_simulate l hst G kk h ad g4 u4 rv4 g u rv sd z lcg hi31 o fo (sm_zb sr ok) lcg_e hi31_e
  have hcM := c_X8_simulate l G kk mo b qm tx f ft dy kp ik jb n sd z lcg hi31 ok.2.1 ok.1 lcg_e hi31_e sh_nn
  obtain ⟨E, I3, K⟩ := op_simulate (g4 := g4) (u4 := u4) (q := qm) (tx := tx) (ft := ft) (dy := dy) (kp := kp) (ik := ik) (jb := jb) (by omega) n0 sr ok (lc := lcg) (hi := hi31) sh_nn sd z
  generalize sX7_simulate g4 u4 rv4 g u rv sd z lcg hi31 = Z at hcH E I3 K
  generalize sX8_simulate qm tx f ft dy kp ik jb n sd z lcg hi31 = R at hcM E I3 K
  have hl : lv_has ls 7 [(0, .ref sb), (1, .ref h), (2, .ref mo), (3, .ref o), (4, .int i4)] := hl
  refine lv_aload_n hx hb dL_law_1212 rfl (lv_at hl 1 rfl) ?_
  refine lv_aload_n hx hb dL_law_1213 rfl (lv_at hl 0 rfl) ?_
  refine lv_iload hx hb dL_law_1214 (lv_at hl 4 rfl) ?_
  refine lv_iconst (v := 1) hx hb dL_law_1216 (by decide) ?_
  refine lv_iadd hx hb dL_law_1217 ?_
  refine va_sld hx hb hX hbl hbA hS hi1 dL_law_1218 ?_
  refine lv_i2l (v := (xs (i4 + 1).toNatClampNeg).toInt64) hx hb dL_law_1219 rfl ?_
  refine lv_bipush (v := 32) hx hb dL_law_1220 (by decide) ?_
  refine lv_lshl (v := (xs (i4 + 1).toNatClampNeg).toInt64 <<< 32) hx hb dL_law_1222 rfl ?_
  refine lv_aload_n hx hb dL_law_1223 rfl (lv_at hl 0 rfl) ?_
  refine lv_iload hx hb dL_law_1224 (lv_at hl 4 rfl) ?_
  refine lv_iconst (v := 2) hx hb dL_law_1226 (by decide) ?_
  refine lv_iadd hx hb dL_law_1227 ?_
  refine va_sld hx hb hX hbl hbA hS hi2 dL_law_1228 ?_
  refine lv_i2l (v := (xs (i4 + 2).toNatClampNeg).toInt64) hx hb dL_law_1229 rfl ?_
  refine lv_ldc2 (v := 4294967295) hx hb hown (hts _ kl_L_154) dL_law_1230 ?_
  refine lv_land hx hb dL_law_1233 ?_
  refine lv_lor hx hb dL_law_1234 ?_
  rw [← ex_sd]
  refine lv_aload_n hx hb dL_law_1235 rfl (lv_at hl 0 rfl) ?_
  refine lv_iload hx hb dL_law_1236 (lv_at hl 4 rfl) ?_
  refine lv_iconst (v := 3) hx hb dL_law_1238 (by decide) ?_
  refine lv_iadd hx hb dL_law_1239 ?_
  refine va_sld hx hb hX hbl hbA hS hi3 dL_law_1240 ?_
  rw [← ex_z]
  refine lv_aload_n hx hb dL_law_1241 rfl (lv_at hl 3 rfl) ?_
  refine k_goH (k_runH (rest := []) (As := [.ref h, .long sd, .int z, .ref o]) hx hb hml hown hts hK hP hD hS hA hE hN hl.1 hcH sh_L_160 ⟨Nat.le_of_ble_eq_true rfl, Nat.le_of_ble_eq_true rfl, rfl, rfl⟩ ([0] ++ (List.range' 22 9 ++ (List.range' 13 9 ++ ([187])))) (by decide +kernel) LH20_C ⟨hC, hS0⟩ rfl (Nat.le_of_ble_eq_true rfl) dL_law_1242) hP hD hS hA ([0] ++ (List.range' 22 9 ++ (List.range' 13 9 ++ ([187])))) LH20_C (ads_app ads1 (ads_app st_ads (ads_app st_ads ads1))) (fun H locs hP hD hS => ?_)
  replace hP := vP_eq2 hP LH20_S
  replace hD := vD_eq2 hD LH20_S
  refine lv_istore (lv' := [(5, .int (h1 1 Z.1)), (0, .ref sb), (1, .ref h), (2, .ref mo), (3, .ref o), (4, .int i4)]) hx hb dL_law_1245 hl (by decide) rfl (fun ls hl => ?_)
  refine lv_aload_n hx hb dL_law_1247 rfl (lv_at hl 3 rfl) ?_
  refine lv_aload_n hx hb dL_law_1248 rfl (lv_at hl 1 rfl) ?_
  refine lv_iload hx hb dL_law_1249 (lv_at hl 5 rfl) ?_
  refine lv_iconst (v := 1) hx hb dL_law_1251 (by decide) ?_
  refine lv_iadd hx hb dL_law_1252 ?_
  refine va_sld hx hb hX hbl hbA hS hi1 dL_law_1253 ?_
  refine lv_i2l (v := (xs (i4 + 1).toNatClampNeg).toInt64) hx hb dL_law_1254 rfl ?_
  refine lv_bipush (v := 32) hx hb dL_law_1255 (by decide) ?_
  refine lv_lshl (v := (xs (i4 + 1).toNatClampNeg).toInt64 <<< 32) hx hb dL_law_1257 rfl ?_
  refine lv_aload_n hx hb dL_law_1258 rfl (lv_at hl 1 rfl) ?_
  refine lv_iload hx hb dL_law_1259 (lv_at hl 5 rfl) ?_
  refine lv_iconst (v := 2) hx hb dL_law_1261 (by decide) ?_
  refine lv_iadd hx hb dL_law_1262 ?_
  refine va_sld hx hb hX hbl hbA hS hi2 dL_law_1263 ?_
  refine lv_i2l (v := (xs (i4 + 2).toNatClampNeg).toInt64) hx hb dL_law_1264 rfl ?_
  refine lv_ldc2 (v := 4294967295) hx hb hown (hts _ kl_L_154) dL_law_1265 ?_
  refine lv_land hx hb dL_law_1268 ?_
  refine lv_lor hx hb dL_law_1269 ?_
  rw [← ex_sd]
  refine lv_aload_n hx hb dL_law_1270 rfl (lv_at hl 1 rfl) ?_
  refine lv_iload hx hb dL_law_1271 (lv_at hl 5 rfl) ?_
  refine lv_iconst (v := 3) hx hb dL_law_1273 (by decide) ?_
  refine lv_iadd hx hb dL_law_1274 ?_
  refine va_sld hx hb hX hbl hbA hS hi3 dL_law_1275 ?_
  rw [← ex_z]
  refine k_goI (k_runV (rest := []) (As := [.long sd, .int z]) hx hb hml hown hts hK hP hD hS hA hE hl.1 hcM vl_L_163 rfl rfl rfl ⟨Nat.le_of_ble_eq_true rfl, Nat.le_of_ble_eq_true rfl, rfl, rfl⟩ (List.range' 179 8) (by decide +kernel) LM_C ⟨hC, hS0⟩ rfl (Nat.le_of_ble_eq_true rfl) dL_law_1276) hP hD hS hA (List.range' 179 8) LM_C ads8 (fun H locs hP hD hS => ?_)
  replace hP := vP_eq2 hP LM_S
  replace hD := vD_eq2 hD LM_S
  refine lv_istore (lv' := [(6, .int R.1), (5, .int (h1 1 Z.1)), (0, .ref sb), (1, .ref h), (2, .ref mo), (3, .ref o), (4, .int i4)]) hx hb dL_law_1279 hl (by decide) rfl (fun ls hl => ?_)
  refine law_tail X hC hS0 hP hD hS hl E.1 (fun hk => (oL_at (h1_zero hk)).trans (congrArg Int32.toInt64 (E.2 (h1_zero hk)))) (fun H locs ls hP hD hS hl => ?_) dL_law_1281 dL_law_1282 dL_law_1285 dL_law_1287 dL_law_1292 dL_law_1294 dL_law_1297 dL_law_1298 dL_law_1299 dL_law_1300 dL_law_1302 dL_law_1303 dL_law_1304 dL_law_1309 (by decide)
  have hT : ∃ sz, TXT tq sg (R.2.1 2) tx sz := ⟨sz, by rw [K 2 (by decide) (by decide)]; exact T⟩
  have hM : ∃ cc, MEM (B + 60) cc mq r mg mu mr (R.2.1 6) dy := ⟨cc, by rw [K 6 (by decide) (by decide)]; exact M.mono (Nat.le_add_right _ _)⟩
  have hS0 := S0.mono (Nat.le_add_right B 60)
  have hS1 := S1.mono (Nat.le_add_right B 60)
  have hST : ST (B + 60) f g u rv := ⟨n, sr, ok.mono (Nat.le_add_right _ _)⟩
  have hn0 := I3
  exact N q tq sg g u rv Z.2.2.1 Z.2.2.2.1 Z.2.2.2.2 mq r mg mu mr s0 g6 u6 rv6 s1 g7 u7 rv7 R.2.1 tx f R.2.2.1 dy kp ik R.2.2.2 (oL Z.1 Z.2.1 fo) ⟨hT, hM, hS0, hS1, hST, hn0⟩ H locs ls hP hD hS hl
