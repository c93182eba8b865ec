set_option maxRecDepth 100000 in
theorem LH_save_C {kk : Nat → ClassId} {h : Nat} {ad : Nat → Nat → Nat} {t : Nat} {sa : Nat} {ra : Nat} {ma : Nat → Nat → Nat} {b6 : Nat → Nat} {b7 : Nat → Nat} {q : Nat → Int32} {tq : Nat → Int32} {sg : Nat → Int32} {g : Nat → Int32} {u : Nat → Int32} {rv : Nat → Nat → Int32} {g4 : Nat → Int32} {u4 : Nat → Int32} {rv4 : Nat → Nat → Int32} {mq : Nat → Int32} {r : Nat → Nat} {mg : Nat → Nat → Int32} {mu : Nat → Nat → Int32} {mr : Nat → Nat → Nat → Int32} {s0 : Nat → Int32} {g6 : Nat → Int32} {u6 : Nat → Int32} {rv6 : Nat → Nat → Int32} {s1 : Nat → Int32} {g7 : Nat → Int32} {u7 : Nat → Int32} {rv7 : Nat → Nat → Int32} : ([0, 159, 169] ++ (List.range' 160 9 ++ (List.range' 170 9 ++ (List.range' 13 9)))).map (fun i => (OBW kk h ad t sa ra ma b6 b7 q tq sg g u rv g4 u4 rv4 mq r mg mu mr s0 g6 u6 rv6 s1 g7 u7 rv7)[i]?) = List.map some ([(h, .inr (7, mrG ad)), (((ad 6) 0), .inr (4, slF (b6 0) s0)), (((ad 7) 0), .inr (4, slF (b7 0) s1))] ++ (stW kk b6 g6 u6 rv6 ++ (stW kk b7 g7 u7 rv7 ++ (stW kk (ad 3) g u rv)))) := (mp_b (mp_c LC_0 (mp_c LC_10 (mp_c LC_12 mp_nil))) (mp_b LC_11 (mp_b LC_13 LC_5)))
set_option maxRecDepth 100000 in
theorem LH_save_S {kk : Nat → ClassId} {h : Nat} {ad : Nat → Nat → Nat} {t : Nat} {sa : Nat} {ra : Nat} {ma : Nat → Nat → Nat} {b6 : Nat → Nat} {b7 : Nat → Nat} {q : Nat → Int32} {tq : Nat → Int32} {sg : Nat → Int32} {g : Nat → Int32} {u : Nat → Int32} {rv : Nat → Nat → Int32} {g4 : Nat → Int32} {u4 : Nat → Int32} {rv4 : Nat → Nat → Int32} {mq : Nat → Int32} {r : Nat → Nat} {mg : Nat → Nat → Int32} {mu : Nat → Nat → Int32} {mr : Nat → Nat → Nat → Int32} {s0 : Nat → Int32} {g6 : Nat → Int32} {u6 : Nat → Int32} {rv6 : Nat → Nat → Int32} {s1 : Nat → Int32} {g7 : Nat → Int32} {u7 : Nat → Int32} {rv7 : Nat → Nat → Int32} {s0' : Nat → Int32} {g6' : Nat → Int32} {u6' : Nat → Int32} {rv6' : Nat → Nat → Int32} {s1' : Nat → Int32} {g7' : Nat → Int32} {u7' : Nat → Int32} {rv7' : Nat → Nat → Int32} : setMany (OBW kk h ad t sa ra ma b6 b7 q tq sg g u rv g4 u4 rv4 mq r mg mu mr s0 g6 u6 rv6 s1 g7 u7 rv7) ([0, 159, 169] ++ (List.range' 160 9 ++ (List.range' 170 9 ++ (List.range' 13 9)))) ([(h, .inr (7, mrG ad)), (((ad 6) 0), .inr (4, slF (b6 0) (s0'))), (((ad 7) 0), .inr (4, slF (b7 0) (s1')))] ++ (stW kk b6 (g6') (u6') (rv6') ++ (stW kk b7 (g7') (u7') (rv7') ++ (stW kk (ad 3) g u rv)))) = OBW kk h ad t sa ra ma b6 b7 q tq sg g u rv g4 u4 rv4 mq r mg mu mr s0' g6' u6' rv6' s1' g7' u7' rv7' := (sm_b (sm_c LS_0 (sm_c LS_10 (sm_c LS_12 rfl))) rfl (sm_b LS_11 rl_st (sm_b LS_13 rl_st LS_5)))
set_option maxRecDepth 100000 in
set_option maxHeartbeats 4000000 in
theorem a_save_no (l : Launch) (hst : l.stackTraces = false) (G : va_G) (kk : Nat → ClassId) {B : Nat} {σ : SG} {h : Nat} {ws : va_W} (hB : B ≤ 90000) (o : OB kk B σ h ws) (x : Int32) (hx : ¬ x = 0) (hx1 : ¬ x = 1) : CH l yL_tryKeep cL_tryKeep 3 [(0, 5, 6, 13)] (rmX 7 104) [.ref h, .int x] G kk ws (QG G kk ws (fun w1 r => OB kk B σ h w1 ∧ r = (-9999001))) := by
  obtain ⟨ad, t, sa, ra, ma, b6, b7, q, tq, sg, g, u, rv, g4, u4, rv4, mq, r, mg, mu, mr, s0, g6, u6, rv6, s1, g7, u7, rv7, rfl, M, S0, S1, ⟨n1, sr, ok⟩, n0⟩ := o
  have K := k_save_no (s0 := s0) (g6 := g6) (u6 := u6) (rv6 := rv6) (s1 := s1) (g7 := g7) (u7 := u7) (rv7 := rv7) (g := g) (u := u) (rv := rv) x hx hx1
  have hcx := c_X7_save l hst G kk h ad b6 b7 s0 g6 u6 rv6 s1 g7 u7 rv7 g u rv x (sm_zb sr ok.1)
  have hans : (xr (sX7_save s0 g6 u6 rv6 s1 g7 u7 rv7 g u rv x).1 (sX7_save s0 g6 u6 rv6 s1 g7 u7 rv7 g u rv x).2.1) = (-9999001) := by rw [K]; rfl
  have M2 : MEMf B σ.2.1 σ.2.2.1 mq r mg mu mr := M
  have S02 : SLf B (sX7_save s0 g6 u6 rv6 s1 g7 u7 rv7 g u rv x).2.2.1 (sX7_save s0 g6 u6 rv6 s1 g7 u7 rv7 g u rv x).2.2.2.2.1 (sX7_save s0 g6 u6 rv6 s1 g7 u7 rv7 g u rv x).2.2.2.2.2.1 (sX7_save s0 g6 u6 rv6 s1 g7 u7 rv7 g u rv x).2.2.2.2.2.2.1 σ.2.2.2.1 := by rw [K]; exact S0
  have S12 : SLf B (sX7_save s0 g6 u6 rv6 s1 g7 u7 rv7 g u rv x).2.2.2.1 (sX7_save s0 g6 u6 rv6 s1 g7 u7 rv7 g u rv x).2.2.2.2.2.2.2.1 (sX7_save s0 g6 u6 rv6 s1 g7 u7 rv7 g u rv x).2.2.2.2.2.2.2.2.1 (sX7_save s0 g6 u6 rv6 s1 g7 u7 rv7 g u rv x).2.2.2.2.2.2.2.2.2 σ.2.2.2.2 := by rw [K]; exact S1
  have ST2 : STf B σ.1 g u rv := ⟨n1, sr, ok⟩
  have n02 : N0 rv4 := n0
  generalize sX7_save s0 g6 u6 rv6 s1 g7 u7 rv7 g u rv x = Z at hcx hans M2 S02 S12 ST2 n02
  refine ch_start (by decide +kernel) (Nat.le_of_ble_eq_true rfl) ?_
  intro p e s m below meth c A ls hx hb hr hml hown hts hlocks hA hE hN hK hP hD hS hl htab
  have hown : s.vm.findClass RL = some m.cls := hown
  have X : LM p l e (rmX 7 104) s m ([.ref h, .int x] : List Value).toArray below meth c cL_tryKeep 3 RL G kk A := ⟨hx, hb, hml, hown, hts, hK, hA, hE, hN⟩
  have hl : lv_has ls 3 [(0, .ref h), (1, .int x)] := hl
  refine lv_aload_n hx hb dL_tryKeep_0 rfl (lv_at hl 0 rfl) ?_
  refine lv_iload_n hx hb dL_tryKeep_1 rfl (lv_at hl 1 rfl) ?_
  refine k_goX (k_runX (rest := []) (As := [.int x]) hx hb hml hown hts hK hP hD hS hA hE hl.1 hcx vl_L_76 rfl rfl rfl ⟨Nat.le_of_ble_eq_true rfl, Nat.le_of_ble_eq_true rfl, rfl, rfl⟩ ([0, 159, 169] ++ (List.range' 160 9 ++ (List.range' 170 9 ++ (List.range' 13 9)))) (by decide +kernel) LH_save_C ⟨Nat.le_of_ble_eq_true rfl, Nat.le_of_ble_eq_true rfl⟩ rfl (Nat.le_of_ble_eq_true rfl) dL_tryKeep_2) hP hD hS hA ([0, 159, 169] ++ (List.range' 160 9 ++ (List.range' 170 9 ++ (List.range' 13 9)))) LH_save_C (ads_app ads3 (ads_app st_ads (ads_app st_ads st_ads))) (fun E ce q9 H locs hcd hEx hP hD hS hce hcv hcl => ?_) (fun H locs hcd hP hD hS => ?_)
  · replace hP := vP_eq2 hP LH_save_S
    replace hD := vD_eq2 hD LH_save_S
    have h9 := mem1 hcd
    have hEx : E = "java/lang/IndexOutOfBoundsException" := by rw [hEx, h9]; rfl
    subst hEx
    refine vx_catch (own := RL) (name := "java/lang/IndexOutOfBoundsException") hown [] ⟨0, 5, 6, 13⟩ [] htab (fun z hz => by cases hz) rfl (by decide) (hts _ cl_13) (hE.1.use xc_3 _) hce hcv hcl ?_
    refine lv_astore_n (lv' := [(2, .ref q9), (0, .ref h), (1, .int x)]) hx hb dL_tryKeep_6 rfl hl (by decide) rfl (fun ls hl => ?_)
    refine lv_ldc (v := (-9999001)) hx hb hown (hts _ kc_L_15) dL_tryKeep_7 ?_
    have hr9 : xr Z.1 Z.2.1 = (-9999001) := by rw [h9]; rfl
    exact fin_g X hr hlocks hP hD hS ⟨⟨ad, t, sa, ra, ma, b6, b7, q, tq, sg, g, u, rv, g4, u4, rv4, mq, r, mg, mu, mr, Z.2.2.1, Z.2.2.2.2.1, Z.2.2.2.2.2.1, Z.2.2.2.2.2.2.1, Z.2.2.2.1, Z.2.2.2.2.2.2.2.1, Z.2.2.2.2.2.2.2.2.1, Z.2.2.2.2.2.2.2.2.2, rfl, M2, S02, S12, ST2, n02⟩, (hr9.symm.trans hans)⟩ OBW_ads dL_tryKeep_9
  · replace hP := vP_eq2 hP LH_save_S
    replace hD := vD_eq2 hD LH_save_S
    have hr9 : xr Z.1 Z.2.1 = Z.2.1 := by rw [hcd]; rfl
    exact fin_g X hr hlocks hP hD hS ⟨⟨ad, t, sa, ra, ma, b6, b7, q, tq, sg, g, u, rv, g4, u4, rv4, mq, r, mg, mu, mr, Z.2.2.1, Z.2.2.2.2.1, Z.2.2.2.2.2.1, Z.2.2.2.2.2.2.1, Z.2.2.2.1, Z.2.2.2.2.2.2.2.1, Z.2.2.2.2.2.2.2.2.1, Z.2.2.2.2.2.2.2.2.2, rfl, M2, S02, S12, ST2, n02⟩, (hr9.symm.trans hans)⟩ OBW_ads dL_tryKeep_5
set_option maxRecDepth 100000 in
set_option maxHeartbeats 4000000 in
theorem a_save_0 (l : Launch) (hst : l.stackTraces = false) (G : va_G) (kk : Nat → ClassId) {B : Nat} {σ : SG} {h : Nat} {ws : va_W} (hB : B ≤ 90000) (o : OB kk B σ h ws)   : CH l yL_tryKeep cL_tryKeep 3 [(0, 5, 6, 13)] (rmX 7 104) [.ref h, .int 0] G kk ws (QG G kk ws (fun w1 r => OB kk B (σ.1, σ.2.1, σ.2.2.1, some σ.1, σ.2.2.2.2) h w1 ∧ r = σ.1 1)) := by
  obtain ⟨ad, t, sa, ra, ma, b6, b7, q, tq, sg, g, u, rv, g4, u4, rv4, mq, r, mg, mu, mr, s0, g6, u6, rv6, s1, g7, u7, rv7, rfl, M, S0, S1, ⟨n1, sr, ok⟩, n0⟩ := o
  have K := k_save_0 (s0 := s0) (g6 := g6) (u6 := u6) (s1 := s1) (g7 := g7) (u7 := u7) (rv7 := rv7) sr ok S0.2.1
  have hcx := c_X7_save l hst G kk h ad b6 b7 s0 g6 u6 rv6 s1 g7 u7 rv7 g u rv 0 (sm_zb sr ok.1)
  have hans : (xr (sX7_save s0 g6 u6 rv6 s1 g7 u7 rv7 g u rv 0).1 (sX7_save s0 g6 u6 rv6 s1 g7 u7 rv7 g u rv 0).2.1) = σ.1 1 := by rw [K]; rfl
  have M2 : MEMf B σ.2.1 σ.2.2.1 mq r mg mu mr := M
  have S02 : SLf B (sX7_save s0 g6 u6 rv6 s1 g7 u7 rv7 g u rv 0).2.2.1 (sX7_save s0 g6 u6 rv6 s1 g7 u7 rv7 g u rv 0).2.2.2.2.1 (sX7_save s0 g6 u6 rv6 s1 g7 u7 rv7 g u rv 0).2.2.2.2.2.1 (sX7_save s0 g6 u6 rv6 s1 g7 u7 rv7 g u rv 0).2.2.2.2.2.2.1 (some σ.1) := by rw [K]; exact sl_keep S0.2.1 sr ok
  have S12 : SLf B (sX7_save s0 g6 u6 rv6 s1 g7 u7 rv7 g u rv 0).2.2.2.1 (sX7_save s0 g6 u6 rv6 s1 g7 u7 rv7 g u rv 0).2.2.2.2.2.2.2.1 (sX7_save s0 g6 u6 rv6 s1 g7 u7 rv7 g u rv 0).2.2.2.2.2.2.2.2.1 (sX7_save s0 g6 u6 rv6 s1 g7 u7 rv7 g u rv 0).2.2.2.2.2.2.2.2.2 σ.2.2.2.2 := by rw [K]; exact S1
  have ST2 : STf B σ.1 g u rv := ⟨n1, sr, ok⟩
  have n02 : N0 rv4 := n0
  generalize sX7_save s0 g6 u6 rv6 s1 g7 u7 rv7 g u rv 0 = Z at hcx hans M2 S02 S12 ST2 n02
  refine ch_start (by decide +kernel) (Nat.le_of_ble_eq_true rfl) ?_
  intro p e s m below meth c A ls hx hb hr hml hown hts hlocks hA hE hN hK hP hD hS hl htab
  have hown : s.vm.findClass RL = some m.cls := hown
  have X : LM p l e (rmX 7 104) s m ([.ref h, .int 0] : List Value).toArray below meth c cL_tryKeep 3 RL G kk A := ⟨hx, hb, hml, hown, hts, hK, hA, hE, hN⟩
  have hl : lv_has ls 3 [(0, .ref h), (1, .int 0)] := hl
  refine lv_aload_n hx hb dL_tryKeep_0 rfl (lv_at hl 0 rfl) ?_
  refine lv_iload_n hx hb dL_tryKeep_1 rfl (lv_at hl 1 rfl) ?_
  refine k_goX (k_runX (rest := []) (As := [.int 0]) hx hb hml hown hts hK hP hD hS hA hE hl.1 hcx vl_L_76 rfl rfl rfl ⟨Nat.le_of_ble_eq_true rfl, Nat.le_of_ble_eq_true rfl, rfl, rfl⟩ ([0, 159, 169] ++ (List.range' 160 9 ++ (List.range' 170 9 ++ (List.range' 13 9)))) (by decide +kernel) LH_save_C ⟨Nat.le_of_ble_eq_true rfl, Nat.le_of_ble_eq_true rfl⟩ rfl (Nat.le_of_ble_eq_true rfl) dL_tryKeep_2) hP hD hS hA ([0, 159, 169] ++ (List.range' 160 9 ++ (List.range' 170 9 ++ (List.range' 13 9)))) LH_save_C (ads_app ads3 (ads_app st_ads (ads_app st_ads st_ads))) (fun E ce q9 H locs hcd hEx hP hD hS hce hcv hcl => ?_) (fun H locs hcd hP hD hS => ?_)
  · replace hP := vP_eq2 hP LH_save_S
    replace hD := vD_eq2 hD LH_save_S
    have h9 := mem1 hcd
    have hEx : E = "java/lang/IndexOutOfBoundsException" := by rw [hEx, h9]; rfl
    subst hEx
    refine vx_catch (own := RL) (name := "java/lang/IndexOutOfBoundsException") hown [] ⟨0, 5, 6, 13⟩ [] htab (fun z hz => by cases hz) rfl (by decide) (hts _ cl_13) (hE.1.use xc_3 _) hce hcv hcl ?_
    refine lv_astore_n (lv' := [(2, .ref q9), (0, .ref h), (1, .int 0)]) hx hb dL_tryKeep_6 rfl hl (by decide) rfl (fun ls hl => ?_)
    refine lv_ldc (v := (-9999001)) hx hb hown (hts _ kc_L_15) dL_tryKeep_7 ?_
    have hr9 : xr Z.1 Z.2.1 = (-9999001) := by rw [h9]; rfl
    exact fin_g X hr hlocks hP hD hS ⟨⟨ad, t, sa, ra, ma, b6, b7, q, tq, sg, g, u, rv, g4, u4, rv4, mq, r, mg, mu, mr, Z.2.2.1, Z.2.2.2.2.1, Z.2.2.2.2.2.1, Z.2.2.2.2.2.2.1, Z.2.2.2.1, Z.2.2.2.2.2.2.2.1, Z.2.2.2.2.2.2.2.2.1, Z.2.2.2.2.2.2.2.2.2, rfl, M2, S02, S12, ST2, n02⟩, (hr9.symm.trans hans)⟩ OBW_ads dL_tryKeep_9
  · replace hP := vP_eq2 hP LH_save_S
    replace hD := vD_eq2 hD LH_save_S
    have hr9 : xr Z.1 Z.2.1 = Z.2.1 := by rw [hcd]; rfl
    exact fin_g X hr hlocks hP hD hS ⟨⟨ad, t, sa, ra, ma, b6, b7, q, tq, sg, g, u, rv, g4, u4, rv4, mq, r, mg, mu, mr, Z.2.2.1, Z.2.2.2.2.1, Z.2.2.2.2.2.1, Z.2.2.2.2.2.2.1, Z.2.2.2.1, Z.2.2.2.2.2.2.2.1, Z.2.2.2.2.2.2.2.2.1, Z.2.2.2.2.2.2.2.2.2, rfl, M2, S02, S12, ST2, n02⟩, (hr9.symm.trans hans)⟩ OBW_ads dL_tryKeep_5
set_option maxRecDepth 100000 in
set_option maxHeartbeats 4000000 in
theorem a_save_1 (l : Launch) (hst : l.stackTraces = false) (G : va_G) (kk : Nat → ClassId) {B : Nat} {σ : SG} {h : Nat} {ws : va_W} (hB : B ≤ 90000) (o : OB kk B σ h ws)   : CH l yL_tryKeep cL_tryKeep 3 [(0, 5, 6, 13)] (rmX 7 104) [.ref h, .int 1] G kk ws (QG G kk ws (fun w1 r => OB kk B (σ.1, σ.2.1, σ.2.2.1, σ.2.2.2.1, some σ.1) h w1 ∧ r = σ.1 1)) := by
  obtain ⟨ad, t, sa, ra, ma, b6, b7, q, tq, sg, g, u, rv, g4, u4, rv4, mq, r, mg, mu, mr, s0, g6, u6, rv6, s1, g7, u7, rv7, rfl, M, S0, S1, ⟨n1, sr, ok⟩, n0⟩ := o
  have K := k_save_1 (s0 := s0) (g6 := g6) (u6 := u6) (rv6 := rv6) (s1 := s1) (g7 := g7) (u7 := u7) sr ok S1.2.1
  have hcx := c_X7_save l hst G kk h ad b6 b7 s0 g6 u6 rv6 s1 g7 u7 rv7 g u rv 1 (sm_zb sr ok.1)
  have hans : (xr (sX7_save s0 g6 u6 rv6 s1 g7 u7 rv7 g u rv 1).1 (sX7_save s0 g6 u6 rv6 s1 g7 u7 rv7 g u rv 1).2.1) = σ.1 1 := by rw [K]; rfl
  have M2 : MEMf B σ.2.1 σ.2.2.1 mq r mg mu mr := M
  have S02 : SLf B (sX7_save s0 g6 u6 rv6 s1 g7 u7 rv7 g u rv 1).2.2.1 (sX7_save s0 g6 u6 rv6 s1 g7 u7 rv7 g u rv 1).2.2.2.2.1 (sX7_save s0 g6 u6 rv6 s1 g7 u7 rv7 g u rv 1).2.2.2.2.2.1 (sX7_save s0 g6 u6 rv6 s1 g7 u7 rv7 g u rv 1).2.2.2.2.2.2.1 σ.2.2.2.1 := by rw [K]; exact S0
  have S12 : SLf B (sX7_save s0 g6 u6 rv6 s1 g7 u7 rv7 g u rv 1).2.2.2.1 (sX7_save s0 g6 u6 rv6 s1 g7 u7 rv7 g u rv 1).2.2.2.2.2.2.2.1 (sX7_save s0 g6 u6 rv6 s1 g7 u7 rv7 g u rv 1).2.2.2.2.2.2.2.2.1 (sX7_save s0 g6 u6 rv6 s1 g7 u7 rv7 g u rv 1).2.2.2.2.2.2.2.2.2 (some σ.1) := by rw [K]; exact sl_keep S1.2.1 sr ok
  have ST2 : STf B σ.1 g u rv := ⟨n1, sr, ok⟩
  have n02 : N0 rv4 := n0
  generalize sX7_save s0 g6 u6 rv6 s1 g7 u7 rv7 g u rv 1 = Z at hcx hans M2 S02 S12 ST2 n02
  refine ch_start (by decide +kernel) (Nat.le_of_ble_eq_true rfl) ?_
  intro p e s m below meth c A ls hx hb hr hml hown hts hlocks hA hE hN hK hP hD hS hl htab
  have hown : s.vm.findClass RL = some m.cls := hown
  have X : LM p l e (rmX 7 104) s m ([.ref h, .int 1] : List Value).toArray below meth c cL_tryKeep 3 RL G kk A := ⟨hx, hb, hml, hown, hts, hK, hA, hE, hN⟩
  have hl : lv_has ls 3 [(0, .ref h), (1, .int 1)] := hl
  refine lv_aload_n hx hb dL_tryKeep_0 rfl (lv_at hl 0 rfl) ?_
  refine lv_iload_n hx hb dL_tryKeep_1 rfl (lv_at hl 1 rfl) ?_
  refine k_goX (k_runX (rest := []) (As := [.int 1]) hx hb hml hown hts hK hP hD hS hA hE hl.1 hcx vl_L_76 rfl rfl rfl ⟨Nat.le_of_ble_eq_true rfl, Nat.le_of_ble_eq_true rfl, rfl, rfl⟩ ([0, 159, 169] ++ (List.range' 160 9 ++ (List.range' 170 9 ++ (List.range' 13 9)))) (by decide +kernel) LH_save_C ⟨Nat.le_of_ble_eq_true rfl, Nat.le_of_ble_eq_true rfl⟩ rfl (Nat.le_of_ble_eq_true rfl) dL_tryKeep_2) hP hD hS hA ([0, 159, 169] ++ (List.range' 160 9 ++ (List.range' 170 9 ++ (List.range' 13 9)))) LH_save_C (ads_app ads3 (ads_app st_ads (ads_app st_ads st_ads))) (fun E ce q9 H locs hcd hEx hP hD hS hce hcv hcl => ?_) (fun H locs hcd hP hD hS => ?_)
  · replace hP := vP_eq2 hP LH_save_S
    replace hD := vD_eq2 hD LH_save_S
    have h9 := mem1 hcd
    have hEx : E = "java/lang/IndexOutOfBoundsException" := by rw [hEx, h9]; rfl
    subst hEx
    refine vx_catch (own := RL) (name := "java/lang/IndexOutOfBoundsException") hown [] ⟨0, 5, 6, 13⟩ [] htab (fun z hz => by cases hz) rfl (by decide) (hts _ cl_13) (hE.1.use xc_3 _) hce hcv hcl ?_
    refine lv_astore_n (lv' := [(2, .ref q9), (0, .ref h), (1, .int 1)]) hx hb dL_tryKeep_6 rfl hl (by decide) rfl (fun ls hl => ?_)
    refine lv_ldc (v := (-9999001)) hx hb hown (hts _ kc_L_15) dL_tryKeep_7 ?_
    have hr9 : xr Z.1 Z.2.1 = (-9999001) := by rw [h9]; rfl
    exact fin_g X hr hlocks hP hD hS ⟨⟨ad, t, sa, ra, ma, b6, b7, q, tq, sg, g, u, rv, g4, u4, rv4, mq, r, mg, mu, mr, Z.2.2.1, Z.2.2.2.2.1, Z.2.2.2.2.2.1, Z.2.2.2.2.2.2.1, Z.2.2.2.1, Z.2.2.2.2.2.2.2.1, Z.2.2.2.2.2.2.2.2.1, Z.2.2.2.2.2.2.2.2.2, rfl, M2, S02, S12, ST2, n02⟩, (hr9.symm.trans hans)⟩ OBW_ads dL_tryKeep_9
  · replace hP := vP_eq2 hP LH_save_S
    replace hD := vD_eq2 hD LH_save_S
    have hr9 : xr Z.1 Z.2.1 = Z.2.1 := by rw [hcd]; rfl
    exact fin_g X hr hlocks hP hD hS ⟨⟨ad, t, sa, ra, ma, b6, b7, q, tq, sg, g, u, rv, g4, u4, rv4, mq, r, mg, mu, mr, Z.2.2.1, Z.2.2.2.2.1, Z.2.2.2.2.2.1, Z.2.2.2.2.2.2.1, Z.2.2.2.1, Z.2.2.2.2.2.2.2.1, Z.2.2.2.2.2.2.2.2.1, Z.2.2.2.2.2.2.2.2.2, rfl, M2, S02, S12, ST2, n02⟩, (hr9.symm.trans hans)⟩ OBW_ads dL_tryKeep_5
