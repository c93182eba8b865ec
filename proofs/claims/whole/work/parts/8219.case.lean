set_option maxRecDepth 100000 in
theorem LH19_C {kk : Nat → ClassId} {h : Nat} {ad : Nat → Nat → Nat} {t : Nat} {sa : Nat} {ra : Nat} {ma : Nat → Nat → Nat} {b6 : Nat → Nat} {b7 : Nat → Nat} {mo : Nat} {b : Nat → Nat} {o : Nat} {q : Nat → Int32} {tq : Nat → Int32} {sg : Nat → Int32} {g : Nat → Int32} {u : Nat → Int32} {rv : Nat → Nat → Int32} {g4 : Nat → Int32} {u4 : Nat → Int32} {rv4 : Nat → Nat → Int32} {mq : Nat → Int32} {r : Nat → Nat} {mg : Nat → Nat → Int32} {mu : Nat → Nat → Int32} {mr : Nat → Nat → Nat → Int32} {s0 : Nat → Int32} {g6 : Nat → Int32} {u6 : Nat → Int32} {rv6 : Nat → Nat → Int32} {s1 : Nat → Int32} {g7 : Nat → Int32} {u7 : Nat → Int32} {rv7 : Nat → Nat → Int32} {qm : Nat → Int32} {tx : Nat → Int32} {f : Nat → Int32} {ft : Nat → Int32} {dy : Nat → Int32} {kp : Nat → Int32} {ik : Nat → Int32} {jb : Nat → Int32} {fo : Nat → Int64} : ([0] ++ (List.range' 22 9 ++ (List.range' 13 9 ++ ([187])))).map (fun i => (LWD kk h ad t sa ra ma b6 b7 mo b o q tq sg g u rv g4 u4 rv4 mq r mg mu mr s0 g6 u6 rv6 s1 g7 u7 rv7 qm tx f ft dy kp ik jb fo)[i]?) = List.map some ([(h, .inr (7, mrG ad))] ++ (stW kk (ad 4) g4 u4 rv4 ++ (stW kk (ad 3) g u rv ++ ([(o, .inl (kk 5, 1, .inr (.inl fo)))])))) := (mp_b (mp_c LC_0 mp_nil) (mp_b LC_6 (mp_b LC_5 (mp_c LC_22 mp_nil))))
set_option maxRecDepth 100000 in
theorem LH19_S {kk : Nat → ClassId} {h : Nat} {ad : Nat → Nat → Nat} {t : Nat} {sa : Nat} {ra : Nat} {ma : Nat → Nat → Nat} {b6 : Nat → Nat} {b7 : Nat → Nat} {mo : Nat} {b : Nat → Nat} {o : Nat} {q : Nat → Int32} {tq : Nat → Int32} {sg : Nat → Int32} {g : Nat → Int32} {u : Nat → Int32} {rv : Nat → Nat → Int32} {g4 : Nat → Int32} {u4 : Nat → Int32} {rv4 : Nat → Nat → Int32} {mq : Nat → Int32} {r : Nat → Nat} {mg : Nat → Nat → Int32} {mu : Nat → Nat → Int32} {mr : Nat → Nat → Nat → Int32} {s0 : Nat → Int32} {g6 : Nat → Int32} {u6 : Nat → Int32} {rv6 : Nat → Nat → Int32} {s1 : Nat → Int32} {g7 : Nat → Int32} {u7 : Nat → Int32} {rv7 : Nat → Nat → Int32} {qm : Nat → Int32} {tx : Nat → Int32} {f : Nat → Int32} {ft : Nat → Int32} {dy : Nat → Int32} {kp : Nat → Int32} {ik : Nat → Int32} {jb : Nat → Int32} {fo : Nat → Int64} {g4' : Nat → Int32} {u4' : Nat → Int32} {rv4' : Nat → Nat → Int32} {fo' : Nat → Int64} : setMany (LWD kk h ad t sa ra ma b6 b7 mo b o q tq sg g u rv g4 u4 rv4 mq r mg mu mr s0 g6 u6 rv6 s1 g7 u7 rv7 qm tx f ft dy kp ik jb fo) ([0] ++ (List.range' 22 9 ++ (List.range' 13 9 ++ ([187])))) ([(h, .inr (7, mrG ad))] ++ (stW kk (ad 4) (g4') (u4') (rv4') ++ (stW kk (ad 3) g u rv ++ ([(o, .inl (kk 5, 1, .inr (.inl (fo'))))])))) = LWD kk h ad t sa ra ma b6 b7 mo b o q tq sg g u rv g4' u4' rv4' mq r mg mu mr s0 g6 u6 rv6 s1 g7 u7 rv7 qm tx f ft dy kp ik jb fo' := (sm_b (sm_c LS_0 rfl) rfl (sm_b LS_6 rl_st (sm_b LS_5 rl_st (sm_c LS_22 rfl))))
set_option maxRecDepth 100000 in
set_option maxHeartbeats 4000000 in
theorem lw_19 {p : Program} {l : Launch} {e : Env} {s : State} {m : MethodId} {below : List Frame} {meth : Method} {c : Code} {sb L : Nat} {xs : Nat → Int32} {G : va_G} {kk : Nat → ClassId} {A : Nat → Prop} {Q : State → Prop} {h : Nat} {ad : Nat → Nat → Nat} {t : Nat} {sa : Nat} {ra : Nat} {ma : Nat → Nat → Nat} {b6 : Nat → Nat} {b7 : Nat → Nat} {mo : Nat} {b : Nat → Nat} {o : Nat} {i4 : Int32} {B C S : Nat} (X : LX p l e s m below meth c sb L xs G kk A Q) (hB : 7200 ≤ B) (hB2 : B ≤ 60000) (hC : C + 1 ≤ 601024) (hS0 : S + 6 ≤ 7293034) (hi1 : vp_in (i4 + 1) L) (hi2 : vp_in (i4 + 2) L) (hi3 : vp_in (i4 + 3) L) (N : NXT p l e s m below meth c sb L xs G kk A Q h ad t sa ra ma b6 b7 mo b o i4 1424 (B + 60) (C + 1) (S + 6)) : NXT p l e s m below meth c sb L xs G kk A Q h ad t sa ra ma b6 b7 mo b o i4 1112 B C S := by
  intro q tq sg g u rv g4 u4 rv4 mq r mg mu mr s0 g6 u6 rv6 s1 g7 u7 rv7 qm tx f ft dy kp ik jb fo inv H locs ls hP hD hS hl
  have X0 := X
  obtain ⟨hst, hx, hb, hr, hml, hown, hts, hX, hbl, hlocks, hA, hbA, hE, hN, hK⟩ := X0
  obtain ⟨⟨sz, T⟩, ⟨cc, M⟩, S0, S1, ⟨n, sr, ok⟩, n0⟩ := inv
  obtain ⟨x, ex_x⟩ : ∃ v, v = xs (i4 + 1).toNatClampNeg := ⟨_, rfl⟩
  obtain ⟨y, ex_y⟩ : ∃ v, v = xs (i4 + 2).toNatClampNeg := ⟨_, rfl⟩
  obtain ⟨z, ex_z⟩ : ∃ v, v = xs (i4 + 3).toNatClampNeg := ⟨_, rfl⟩
  obtain ⟨sc, ex_sc⟩ : ∃ v, v = ((xs (i4 + 2).toNatClampNeg).toInt64 <<< 32) ||| ((xs (i4 + 3).toNatClampNeg).toInt64 &&& 4294967295) := ⟨_, rfl⟩
  have hcH := c_L_runScript l hst G kk h ad g4 u4 rv4 g u rv x sc o fo (sm_zb sr ok)
  have hcM := c_X8_runScript l G kk mo b qm tx f ft dy kp ik jb n x sc ok.2.1 ok.1
  obtain ⟨E, I3, K⟩ := op_script (g4 := g4) (u4 := u4) (q := qm) (tx := tx) (ft := ft) (dy := dy) (kp := kp) (ik := ik) (jb := jb) (by omega) n0 sr ok x sc
  generalize sX7_runScript g4 u4 rv4 g u rv x sc = Z at hcH E I3 K
  generalize sX8_runScript qm tx f ft dy kp ik jb n x sc = R at hcM E I3 K
  have hl : lv_has ls 7 [(0, .ref sb), (1, .ref h), (2, .ref mo), (3, .ref o), (4, .int i4)] := hl
  refine lv_aload_n hx hb dL_law_1112 rfl (lv_at hl 1 rfl) ?_
  refine lv_aload_n hx hb dL_law_1113 rfl (lv_at hl 0 rfl) ?_
  refine lv_iload hx hb dL_law_1114 (lv_at hl 4 rfl) ?_
  refine lv_iconst (v := 1) hx hb dL_law_1116 (by decide) ?_
  refine lv_iadd hx hb dL_law_1117 ?_
  refine va_sld hx hb hX hbl hbA hS hi1 dL_law_1118 ?_
  rw [← ex_x]
  refine lv_aload_n hx hb dL_law_1119 rfl (lv_at hl 0 rfl) ?_
  refine lv_iload hx hb dL_law_1120 (lv_at hl 4 rfl) ?_
  refine lv_iconst (v := 2) hx hb dL_law_1122 (by decide) ?_
  refine lv_iadd hx hb dL_law_1123 ?_
  refine va_sld hx hb hX hbl hbA hS hi2 dL_law_1124 ?_
  refine lv_i2l (v := (xs (i4 + 2).toNatClampNeg).toInt64) hx hb dL_law_1125 rfl ?_
  refine lv_bipush (v := 32) hx hb dL_law_1126 (by decide) ?_
  refine lv_lshl (v := (xs (i4 + 2).toNatClampNeg).toInt64 <<< 32) hx hb dL_law_1128 rfl ?_
  refine lv_aload_n hx hb dL_law_1129 rfl (lv_at hl 0 rfl) ?_
  refine lv_iload hx hb dL_law_1130 (lv_at hl 4 rfl) ?_
  refine lv_iconst (v := 3) hx hb dL_law_1132 (by decide) ?_
  refine lv_iadd hx hb dL_law_1133 ?_
  refine va_sld hx hb hX hbl hbA hS hi3 dL_law_1134 ?_
  refine lv_i2l (v := (xs (i4 + 3).toNatClampNeg).toInt64) hx hb dL_law_1135 rfl ?_
  refine lv_ldc2 (v := 4294967295) hx hb hown (hts _ kl_L_154) dL_law_1136 ?_
  refine lv_land hx hb dL_law_1139 ?_
  refine lv_lor hx hb dL_law_1140 ?_
  rw [← ex_sc]
  refine lv_aload_n hx hb dL_law_1141 rfl (lv_at hl 3 rfl) ?_
  refine k_goH (k_runH (rest := []) (As := [.ref h, .int x, .long sc, .ref o]) hx hb hml hown hts hK hP hD hS hA hE hN hl.1 hcH sh_L_156 ⟨Nat.le_of_ble_eq_true rfl, Nat.le_of_ble_eq_true rfl, rfl, rfl⟩ ([0] ++ (List.range' 22 9 ++ (List.range' 13 9 ++ ([187])))) (by decide +kernel) LH19_C ⟨hC, hS0⟩ rfl (Nat.le_of_ble_eq_true rfl) dL_law_1142) hP hD hS hA ([0] ++ (List.range' 22 9 ++ (List.range' 13 9 ++ ([187])))) LH19_C (ads_app ads1 (ads_app st_ads (ads_app st_ads ads1))) (fun H locs hP hD hS => ?_)
  replace hP := vP_eq2 hP LH19_S
  replace hD := vD_eq2 hD LH19_S
  refine lv_istore (lv' := [(5, .int (h1 1 Z.1)), (0, .ref sb), (1, .ref h), (2, .ref mo), (3, .ref o), (4, .int i4)]) hx hb dL_law_1145 hl (by decide) rfl (fun ls hl => ?_)
  refine lv_aload_n hx hb dL_law_1147 rfl (lv_at hl 3 rfl) ?_
  refine lv_aload_n hx hb dL_law_1148 rfl (lv_at hl 1 rfl) ?_
  refine lv_iload hx hb dL_law_1149 (lv_at hl 5 rfl) ?_
  refine lv_iconst (v := 1) hx hb dL_law_1151 (by decide) ?_
  refine lv_iadd hx hb dL_law_1152 ?_
  refine va_sld hx hb hX hbl hbA hS hi1 dL_law_1153 ?_
  rw [← ex_x]
  refine lv_aload_n hx hb dL_law_1154 rfl (lv_at hl 1 rfl) ?_
  refine lv_iload hx hb dL_law_1155 (lv_at hl 5 rfl) ?_
  refine lv_iconst (v := 2) hx hb dL_law_1157 (by decide) ?_
  refine lv_iadd hx hb dL_law_1158 ?_
  refine va_sld hx hb hX hbl hbA hS hi2 dL_law_1159 ?_
  refine lv_i2l (v := (xs (i4 + 2).toNatClampNeg).toInt64) hx hb dL_law_1160 rfl ?_
  refine lv_bipush (v := 32) hx hb dL_law_1161 (by decide) ?_
  refine lv_lshl (v := (xs (i4 + 2).toNatClampNeg).toInt64 <<< 32) hx hb dL_law_1163 rfl ?_
  refine lv_aload_n hx hb dL_law_1164 rfl (lv_at hl 1 rfl) ?_
  refine lv_iload hx hb dL_law_1165 (lv_at hl 5 rfl) ?_
  refine lv_iconst (v := 3) hx hb dL_law_1167 (by decide) ?_
  refine lv_iadd hx hb dL_law_1168 ?_
  refine va_sld hx hb hX hbl hbA hS hi3 dL_law_1169 ?_
  refine lv_i2l (v := (xs (i4 + 3).toNatClampNeg).toInt64) hx hb dL_law_1170 rfl ?_
  refine lv_ldc2 (v := 4294967295) hx hb hown (hts _ kl_L_154) dL_law_1171 ?_
  refine lv_land hx hb dL_law_1174 ?_
  refine lv_lor hx hb dL_law_1175 ?_
  rw [← ex_sc]
  refine k_goI (k_runV (rest := []) (As := [.int x, .long sc]) hx hb hml hown hts hK hP hD hS hA hE hl.1 hcM vl_L_159 rfl rfl rfl ⟨Nat.le_of_ble_eq_true rfl, Nat.le_of_ble_eq_true rfl, rfl, rfl⟩ (List.range' 179 8) (by decide +kernel) LM_C ⟨hC, hS0⟩ rfl (Nat.le_of_ble_eq_true rfl) dL_law_1176) hP hD hS hA (List.range' 179 8) LM_C ads8 (fun H locs hP hD hS => ?_)
  replace hP := vP_eq2 hP LM_S
  replace hD := vD_eq2 hD LM_S
  refine lv_istore (lv' := [(6, .int R.1), (5, .int (h1 1 Z.1)), (0, .ref sb), (1, .ref h), (2, .ref mo), (3, .ref o), (4, .int i4)]) hx hb dL_law_1179 hl (by decide) rfl (fun ls hl => ?_)
  refine law_tail X hC hS0 hP hD hS hl E.1 (fun hk => (oL_at (h1_zero hk)).trans (congrArg Int32.toInt64 (E.2 (h1_zero hk)))) (fun H locs ls hP hD hS hl => ?_) dL_law_1181 dL_law_1182 dL_law_1185 dL_law_1187 dL_law_1192 dL_law_1194 dL_law_1197 dL_law_1198 dL_law_1199 dL_law_1200 dL_law_1202 dL_law_1203 dL_law_1204 dL_law_1209 (by decide)
  have hT : ∃ sz, TXT tq sg (R.2.1 2) tx sz := ⟨sz, by rw [K 2 (by decide) (by decide)]; exact T⟩
  have hM : ∃ cc, MEM (B + 60) cc mq r mg mu mr (R.2.1 6) dy := ⟨cc, by rw [K 6 (by decide) (by decide)]; exact M.mono (Nat.le_add_right _ _)⟩
  have hS0 := S0.mono (Nat.le_add_right B 60)
  have hS1 := S1.mono (Nat.le_add_right B 60)
  have hST : ST (B + 60) f g u rv := ⟨n, sr, ok.mono (Nat.le_add_right _ _)⟩
  have hn0 := I3
  exact N q tq sg g u rv Z.2.2.1 Z.2.2.2.1 Z.2.2.2.2 mq r mg mu mr s0 g6 u6 rv6 s1 g7 u7 rv7 R.2.1 tx f R.2.2.1 dy kp ik R.2.2.2 (oL Z.1 Z.2.1 fo) ⟨hT, hM, hS0, hS1, hST, hn0⟩ H locs ls hP hD hS hl
