set_option maxRecDepth 100000 in
theorem LH_undo_C {kk : Nat → ClassId} {h : Nat} {ad : Nat → Nat → Nat} {t : Nat} {sa : Nat} {ra : Nat} {ma : Nat → Nat → Nat} {b6 : Nat → Nat} {b7 : Nat → Nat} {q : Nat → Int32} {tq : Nat → Int32} {sg : Nat → Int32} {g : Nat → Int32} {u : Nat → Int32} {rv : Nat → Nat → Int32} {g4 : Nat → Int32} {u4 : Nat → Int32} {rv4 : Nat → Nat → Int32} {mq : Nat → Int32} {r : Nat → Nat} {mg : Nat → Nat → Int32} {mu : Nat → Nat → Int32} {mr : Nat → Nat → Nat → Int32} {s0 : Nat → Int32} {g6 : Nat → Int32} {u6 : Nat → Int32} {rv6 : Nat → Nat → Int32} {s1 : Nat → Int32} {g7 : Nat → Int32} {u7 : Nat → Int32} {rv7 : Nat → Nat → Int32} : ([0, 31, 32] ++ (List.range' 33 126 ++ (List.range' 13 9))).map (fun i => (OBW kk h ad t sa ra ma b6 b7 q tq sg g u rv g4 u4 rv4 mq r mg mu mr s0 g6 u6 rv6 s1 g7 u7 rv7)[i]?) = List.map some ([(h, .inr (7, mrG ad)), (((ad 5) 0), .inr (0, mmF ra mq)), (ra, .inl (kk 4, 14, .inr (.inr (.inr (.inr (rowF ma r))))))] ++ (stsF kk ma mg mu mr 0 14 ++ (stW kk (ad 3) g u rv))) := (mp_b (mp_c LC_0 (mp_c LC_7 (mp_c LC_8 mp_nil))) (mp_b LC_9 LC_5))
set_option maxRecDepth 100000 in
theorem LH_undo_S {kk : Nat → ClassId} {h : Nat} {ad : Nat → Nat → Nat} {t : Nat} {sa : Nat} {ra : Nat} {ma : Nat → Nat → Nat} {b6 : Nat → Nat} {b7 : Nat → Nat} {q : Nat → Int32} {tq : Nat → Int32} {sg : Nat → Int32} {g : Nat → Int32} {u : Nat → Int32} {rv : Nat → Nat → Int32} {g4 : Nat → Int32} {u4 : Nat → Int32} {rv4 : Nat → Nat → Int32} {mq : Nat → Int32} {r : Nat → Nat} {mg : Nat → Nat → Int32} {mu : Nat → Nat → Int32} {mr : Nat → Nat → Nat → Int32} {s0 : Nat → Int32} {g6 : Nat → Int32} {u6 : Nat → Int32} {rv6 : Nat → Nat → Int32} {s1 : Nat → Int32} {g7 : Nat → Int32} {u7 : Nat → Int32} {rv7 : Nat → Nat → Int32} {g' : Nat → Int32} {u' : Nat → Int32} {rv' : Nat → Nat → Int32} {mq' : Nat → Int32} : setMany (OBW kk h ad t sa ra ma b6 b7 q tq sg g u rv g4 u4 rv4 mq r mg mu mr s0 g6 u6 rv6 s1 g7 u7 rv7) ([0, 31, 32] ++ (List.range' 33 126 ++ (List.range' 13 9))) ([(h, .inr (7, mrG ad)), (((ad 5) 0), .inr (0, mmF ra (mq'))), (ra, .inl (kk 4, 14, .inr (.inr (.inr (.inr (rowF ma r))))))] ++ (stsF kk ma mg mu mr 0 14 ++ (stW kk (ad 3) (g') (u') (rv')))) = OBW kk h ad t sa ra ma b6 b7 q tq sg g' u' rv' g4 u4 rv4 mq' r mg mu mr s0 g6 u6 rv6 s1 g7 u7 rv7 := (sm_b (sm_c LS_0 (sm_c LS_7 (sm_c LS_8 rfl))) rfl (sm_b LS_9 rl_sts LS_5))
set_option maxRecDepth 100000 in
set_option maxHeartbeats 4000000 in
theorem a_undo_no (l : Launch) (hst : l.stackTraces = false) (G : va_G) (kk : Nat → ClassId) {B : Nat} {σ : SG} {h : Nat} {ws : va_W} (hB : B ≤ 90000) (o : OB kk B σ h ws)  (hc : σ.2.1 = 0) : CH l yL_tryUndo cL_tryUndo 2 [(0, 4, 5, 31)] (rmX 7 102) [.ref h] G kk ws (QG G kk ws (fun w1 r => OB kk B σ h w1 ∧ r = (-9999003))) := by
  obtain ⟨ad, t, sa, ra, ma, b6, b7, q, tq, sg, g, u, rv, g4, u4, rv4, mq, r, mg, mu, mr, s0, g6, u6, rv6, s1, g7, u7, rv7, rfl, M, S0, S1, ⟨n1, sr, ok⟩, n0⟩ := o
  have K : sX7_undo mq r mg mu mr g u rv σ.2.1 = (2, 0, mq, g, u, rv) := by
    have M9 := M
    rw [hc] at M9 ⊢
    exact k_undo_no M9
  have hcx := c_X7_undo l hst G kk h ad ra ma mq r mg mu mr g u rv σ.2.1 M.1 M.2.1 M.2.2.1 (fun p hp i hi => (M.2.2.2.2.1 p hp i hi).2)
  have hans : (xr (sX7_undo mq r mg mu mr g u rv σ.2.1).1 (sX7_undo mq r mg mu mr g u rv σ.2.1).2.1) = (-9999003) := by rw [K]; rfl
  have M2 : MEMf B σ.2.1 σ.2.2.1 (sX7_undo mq r mg mu mr g u rv σ.2.1).2.2.1 r mg mu mr := by rw [K]; exact M
  have S02 : SLf B s0 g6 u6 rv6 σ.2.2.2.1 := S0
  have S12 : SLf B s1 g7 u7 rv7 σ.2.2.2.2 := S1
  have ST2 : STf B σ.1 (sX7_undo mq r mg mu mr g u rv σ.2.1).2.2.2.1 (sX7_undo mq r mg mu mr g u rv σ.2.1).2.2.2.2.1 (sX7_undo mq r mg mu mr g u rv σ.2.1).2.2.2.2.2 := by rw [K]; exact ⟨n1, sr, ok⟩
  have n02 : N0 rv4 := n0
  generalize sX7_undo mq r mg mu mr g u rv σ.2.1 = Z at hcx hans M2 S02 S12 ST2 n02
  refine ch_start (by decide +kernel) (Nat.le_of_ble_eq_true rfl) ?_
  intro p e s m below meth c A ls hx hb hr hml hown hts hlocks hA hE hN hK hP hD hS hl htab
  have hown : s.vm.findClass RL = some m.cls := hown
  have X : LM p l e (rmX 7 102) s m ([.ref h] : List Value).toArray below meth c cL_tryUndo 2 RL G kk A := ⟨hx, hb, hml, hown, hts, hK, hA, hE, hN⟩
  have hl : lv_has ls 2 [(0, .ref h)] := hl
  refine lv_aload_n hx hb dL_tryUndo_0 rfl (lv_at hl 0 rfl) ?_
  refine k_goX (k_runX (rest := []) (As := []) hx hb hml hown hts hK hP hD hS hA hE hl.1 hcx vl_L_64 rfl rfl rfl ⟨Nat.le_of_ble_eq_true rfl, Nat.le_of_ble_eq_true rfl, rfl, rfl⟩ ([0, 31, 32] ++ (List.range' 33 126 ++ (List.range' 13 9))) (by decide +kernel) LH_undo_C ⟨Nat.le_of_ble_eq_true rfl, Nat.le_of_ble_eq_true rfl⟩ rfl (Nat.le_of_ble_eq_true rfl) dL_tryUndo_1) hP hD hS hA ([0, 31, 32] ++ (List.range' 33 126 ++ (List.range' 13 9))) LH_undo_C (ads_app ads3 (ads_app sts_ads st_ads)) (fun E ce q9 H locs hcd hEx hP hD hS hce hcv hcl => ?_) (fun H locs hcd hP hD hS => ?_)
  · replace hP := vP_eq2 hP LH_undo_S
    replace hD := vD_eq2 hD LH_undo_S
    have h9 := mem1 hcd
    have hEx : E = "java/lang/IllegalStateException" := by rw [hEx, h9]; rfl
    subst hEx
    refine vx_catch (own := RL) (name := "java/lang/IllegalStateException") hown [] ⟨0, 4, 5, 31⟩ [] htab (fun z hz => by cases hz) rfl (by decide) (hts _ cl_31) (hE.1.use xc_2 _) hce hcv hcl ?_
    refine lv_astore_n (lv' := [(1, .ref q9), (0, .ref h)]) hx hb dL_tryUndo_5 rfl hl (by decide) rfl (fun ls hl => ?_)
    refine lv_ldc (v := (-9999003)) hx hb hown (hts _ kc_L_33) dL_tryUndo_6 ?_
    have hr9 : xr Z.1 Z.2.1 = (-9999003) := by rw [h9]; rfl
    exact fin_g X hr hlocks hP hD hS ⟨⟨ad, t, sa, ra, ma, b6, b7, q, tq, sg, Z.2.2.2.1, Z.2.2.2.2.1, Z.2.2.2.2.2, g4, u4, rv4, Z.2.2.1, r, mg, mu, mr, s0, g6, u6, rv6, s1, g7, u7, rv7, rfl, M2, S02, S12, ST2, n02⟩, (hr9.symm.trans hans)⟩ OBW_ads dL_tryUndo_8
  · replace hP := vP_eq2 hP LH_undo_S
    replace hD := vD_eq2 hD LH_undo_S
    have hr9 : xr Z.1 Z.2.1 = Z.2.1 := by rw [hcd]; rfl
    exact fin_g X hr hlocks hP hD hS ⟨⟨ad, t, sa, ra, ma, b6, b7, q, tq, sg, Z.2.2.2.1, Z.2.2.2.2.1, Z.2.2.2.2.2, g4, u4, rv4, Z.2.2.1, r, mg, mu, mr, s0, g6, u6, rv6, s1, g7, u7, rv7, rfl, M2, S02, S12, ST2, n02⟩, (hr9.symm.trans hans)⟩ OBW_ads dL_tryUndo_4
set_option maxRecDepth 100000 in
set_option maxHeartbeats 4000000 in
theorem a_undo (l : Launch) (hst : l.stackTraces = false) (G : va_G) (kk : Nat → ClassId) {B : Nat} {σ : SG} {h : Nat} {ws : va_W} (hB : B ≤ 90000) (o : OB kk B σ h ws)  (hc : ¬ σ.2.1 = 0) : CH l yL_tryUndo cL_tryUndo 2 [(0, 4, 5, 31)] (rmX 7 102) [.ref h] G kk ws (QG G kk ws (fun w1 r => OB kk B (sUndo σ) h w1 ∧ r = nI (σ.2.1 - 1))) := by
  obtain ⟨ad, t, sa, ra, ma, b6, b7, q, tq, sg, g, u, rv, g4, u4, rv4, mq, r, mg, mu, mr, s0, g6, u6, rv6, s1, g7, u7, rv7, rfl, M, S0, S1, ⟨n1, sr, ok⟩, n0⟩ := o
  have K := k_undo M sr hc
  have hcx := c_X7_undo l hst G kk h ad ra ma mq r mg mu mr g u rv σ.2.1 M.1 M.2.1 M.2.2.1 (fun p hp i hi => (M.2.2.2.2.1 p hp i hi).2)
  have hans : (xr (sX7_undo mq r mg mu mr g u rv σ.2.1).1 (sX7_undo mq r mg mu mr g u rv σ.2.1).2.1) = nI (σ.2.1 - 1) := by rw [K.1, K.2.1, xr_0]
  have M2 : MEMf B (σ.2.1 - 1) σ.2.2.1 (sX7_undo mq r mg mu mr g u rv σ.2.1).2.2.1 r mg mu mr := K.2.2.1
  have S02 : SLf B s0 g6 u6 rv6 σ.2.2.2.1 := S0
  have S12 : SLf B s1 g7 u7 rv7 σ.2.2.2.2 := S1
  have ST2 : STf B (σ.2.2.1 (σ.2.1 - 1)) (sX7_undo mq r mg mu mr g u rv σ.2.1).2.2.2.1 (sX7_undo mq r mg mu mr g u rv σ.2.1).2.2.2.2.1 (sX7_undo mq r mg mu mr g u rv σ.2.1).2.2.2.2.2 := K.2.2.2
  have n02 : N0 rv4 := n0
  generalize sX7_undo mq r mg mu mr g u rv σ.2.1 = Z at hcx hans M2 S02 S12 ST2 n02
  refine ch_start (by decide +kernel) (Nat.le_of_ble_eq_true rfl) ?_
  intro p e s m below meth c A ls hx hb hr hml hown hts hlocks hA hE hN hK hP hD hS hl htab
  have hown : s.vm.findClass RL = some m.cls := hown
  have X : LM p l e (rmX 7 102) s m ([.ref h] : List Value).toArray below meth c cL_tryUndo 2 RL G kk A := ⟨hx, hb, hml, hown, hts, hK, hA, hE, hN⟩
  have hl : lv_has ls 2 [(0, .ref h)] := hl
  refine lv_aload_n hx hb dL_tryUndo_0 rfl (lv_at hl 0 rfl) ?_
  refine k_goX (k_runX (rest := []) (As := []) hx hb hml hown hts hK hP hD hS hA hE hl.1 hcx vl_L_64 rfl rfl rfl ⟨Nat.le_of_ble_eq_true rfl, Nat.le_of_ble_eq_true rfl, rfl, rfl⟩ ([0, 31, 32] ++ (List.range' 33 126 ++ (List.range' 13 9))) (by decide +kernel) LH_undo_C ⟨Nat.le_of_ble_eq_true rfl, Nat.le_of_ble_eq_true rfl⟩ rfl (Nat.le_of_ble_eq_true rfl) dL_tryUndo_1) hP hD hS hA ([0, 31, 32] ++ (List.range' 33 126 ++ (List.range' 13 9))) LH_undo_C (ads_app ads3 (ads_app sts_ads st_ads)) (fun E ce q9 H locs hcd hEx hP hD hS hce hcv hcl => ?_) (fun H locs hcd hP hD hS => ?_)
  · replace hP := vP_eq2 hP LH_undo_S
    replace hD := vD_eq2 hD LH_undo_S
    have h9 := mem1 hcd
    have hEx : E = "java/lang/IllegalStateException" := by rw [hEx, h9]; rfl
    subst hEx
    refine vx_catch (own := RL) (name := "java/lang/IllegalStateException") hown [] ⟨0, 4, 5, 31⟩ [] htab (fun z hz => by cases hz) rfl (by decide) (hts _ cl_31) (hE.1.use xc_2 _) hce hcv hcl ?_
    refine lv_astore_n (lv' := [(1, .ref q9), (0, .ref h)]) hx hb dL_tryUndo_5 rfl hl (by decide) rfl (fun ls hl => ?_)
    refine lv_ldc (v := (-9999003)) hx hb hown (hts _ kc_L_33) dL_tryUndo_6 ?_
    have hr9 : xr Z.1 Z.2.1 = (-9999003) := by rw [h9]; rfl
    exact fin_g X hr hlocks hP hD hS ⟨⟨ad, t, sa, ra, ma, b6, b7, q, tq, sg, Z.2.2.2.1, Z.2.2.2.2.1, Z.2.2.2.2.2, g4, u4, rv4, Z.2.2.1, r, mg, mu, mr, s0, g6, u6, rv6, s1, g7, u7, rv7, rfl, M2, S02, S12, ST2, n02⟩, (hr9.symm.trans hans)⟩ OBW_ads dL_tryUndo_8
  · replace hP := vP_eq2 hP LH_undo_S
    replace hD := vD_eq2 hD LH_undo_S
    have hr9 : xr Z.1 Z.2.1 = Z.2.1 := by rw [hcd]; rfl
    exact fin_g X hr hlocks hP hD hS ⟨⟨ad, t, sa, ra, ma, b6, b7, q, tq, sg, Z.2.2.2.1, Z.2.2.2.2.1, Z.2.2.2.2.2, g4, u4, rv4, Z.2.2.1, r, mg, mu, mr, s0, g6, u6, rv6, s1, g7, u7, rv7, rfl, M2, S02, S12, ST2, n02⟩, (hr9.symm.trans hans)⟩ OBW_ads dL_tryUndo_4
