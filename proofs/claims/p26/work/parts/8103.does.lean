set_option maxRecDepth 100000 in
theorem LH_does_C {kk : Nat → ClassId} {h : Nat} {ad : Nat → Nat → Nat} {t : Nat} {sa : Nat} {ra : Nat} {ma : Nat → Nat → Nat} {b6 : Nat → Nat} {b7 : Nat → Nat} {q : Nat → Int32} {tq : Nat → Int32} {sg : Nat → Int32} {g : Nat → Int32} {u : Nat → Int32} {rv : Nat → Nat → Int32} {g4 : Nat → Int32} {u4 : Nat → Int32} {rv4 : Nat → Nat → Int32} {mq : Nat → Int32} {r : Nat → Nat} {mg : Nat → Nat → Int32} {mu : Nat → Nat → Int32} {mr : Nat → Nat → Nat → Int32} {s0 : Nat → Int32} {g6 : Nat → Int32} {u6 : Nat → Int32} {rv6 : Nat → Nat → Int32} {s1 : Nat → Int32} {g7 : Nat → Int32} {u7 : Nat → Int32} {rv7 : Nat → Nat → Int32} : ([0] ++ (List.range' 13 9)).map (fun i => (OBW kk h ad t sa ra ma b6 b7 q tq sg g u rv g4 u4 rv4 mq r mg mu mr s0 g6 u6 rv6 s1 g7 u7 rv7)[i]?) = List.map some ([(h, .inr (7, mrG ad))] ++ (stW kk (ad 3) g u rv)) := (mp_b (mp_c LC_0 mp_nil) LC_5)
set_option maxRecDepth 100000 in
theorem LH_does_S {kk : Nat → ClassId} {h : Nat} {ad : Nat → Nat → Nat} {t : Nat} {sa : Nat} {ra : Nat} {ma : Nat → Nat → Nat} {b6 : Nat → Nat} {b7 : Nat → Nat} {q : Nat → Int32} {tq : Nat → Int32} {sg : Nat → Int32} {g : Nat → Int32} {u : Nat → Int32} {rv : Nat → Nat → Int32} {g4 : Nat → Int32} {u4 : Nat → Int32} {rv4 : Nat → Nat → Int32} {mq : Nat → Int32} {r : Nat → Nat} {mg : Nat → Nat → Int32} {mu : Nat → Nat → Int32} {mr : Nat → Nat → Nat → Int32} {s0 : Nat → Int32} {g6 : Nat → Int32} {u6 : Nat → Int32} {rv6 : Nat → Nat → Int32} {s1 : Nat → Int32} {g7 : Nat → Int32} {u7 : Nat → Int32} {rv7 : Nat → Nat → Int32} {rv' : Nat → Nat → Int32} : setMany (OBW kk h ad t sa ra ma b6 b7 q tq sg g u rv g4 u4 rv4 mq r mg mu mr s0 g6 u6 rv6 s1 g7 u7 rv7) ([0] ++ (List.range' 13 9)) ([(h, .inr (7, mrG ad))] ++ (stW kk (ad 3) g u (rv'))) = OBW kk h ad t sa ra ma b6 b7 q tq sg g u rv' g4 u4 rv4 mq r mg mu mr s0 g6 u6 rv6 s1 g7 u7 rv7 := (sm_b (sm_c LS_0 rfl) rfl LS_5)
set_option maxRecDepth 100000 in
set_option maxHeartbeats 4000000 in
theorem a_does (l : Launch) (hst : l.stackTraces = false) (G : va_G) (kk : Nat → ClassId) {B : Nat} {σ : SG} {h : Nat} {ws : va_W} (hB : B ≤ 90000) (o : OB kk B σ h ws) (x : Int32)  : CH l yL_tryDoes cL_tryDoes 3 [(0, 5, 6, 13)] (rmX 7 104) [.ref h, .int x] G kk ws (QG G kk ws (fun w1 r => OB kk B σ h w1 ∧ r = qDoes σ.1 x)) := by
  obtain ⟨ad, t, sa, ra, ma, b6, b7, q, tq, sg, g, u, rv, g4, u4, rv4, mq, r, mg, mu, mr, s0, g6, u6, rv6, s1, g7, u7, rv7, rfl, M, S0, S1, ⟨n1, sr, ok⟩, n0⟩ := o
  have hcx := c_X7_does l hst G kk h ad g u rv x 
  have hans : (xr (sX7_does g u rv x).1 (sX7_does g u rv x).2.1) = qDoes σ.1 x := (k_does (by omega) sr ok.1 x).1
  have M2 : MEMf B σ.2.1 σ.2.2.1 mq r mg mu mr := M
  have S02 : SLf B s0 g6 u6 rv6 σ.2.2.2.1 := S0
  have S12 : SLf B s1 g7 u7 rv7 σ.2.2.2.2 := S1
  have ST2 : STf B σ.1 g u (sX7_does g u rv x).2.2 := ⟨n1, (k_does (by omega) sr ok.1 x).2, ok⟩
  have n02 : N0 rv4 := n0
  generalize sX7_does g u rv x = Z at hcx hans M2 S02 S12 ST2 n02
  refine ch_start (by decide +kernel) (Nat.le_of_ble_eq_true rfl) ?_
  intro p e s m below meth c A ls hx hb hr hml hown hts hlocks hA hE hN hK hP hD hS hl htab
  have hown : s.vm.findClass RL = some m.cls := hown
  have X : LM p l e (rmX 7 104) s m ([.ref h, .int x] : List Value).toArray below meth c cL_tryDoes 3 RL G kk A := ⟨hx, hb, hml, hown, hts, hK, hA, hE, hN⟩
  have hl : lv_has ls 3 [(0, .ref h), (1, .int x)] := hl
  refine lv_aload_n hx hb dL_tryDoes_0 rfl (lv_at hl 0 rfl) ?_
  refine lv_iload_n hx hb dL_tryDoes_1 rfl (lv_at hl 1 rfl) ?_
  refine k_goX (k_runX (rest := []) (As := [.int x]) hx hb hml hown hts hK hP hD hS hA hE hl.1 hcx vl_L_45 rfl rfl rfl ⟨Nat.le_of_ble_eq_true rfl, Nat.le_of_ble_eq_true rfl, rfl, rfl⟩ ([0] ++ (List.range' 13 9)) (by decide +kernel) LH_does_C ⟨Nat.le_of_ble_eq_true rfl, Nat.le_of_ble_eq_true rfl⟩ rfl (Nat.le_of_ble_eq_true rfl) dL_tryDoes_2) hP hD hS hA ([0] ++ (List.range' 13 9)) LH_does_C (ads_app ads1 st_ads) (fun E ce q9 H locs hcd hEx hP hD hS hce hcv hcl => ?_) (fun H locs hcd hP hD hS => ?_)
  · replace hP := vP_eq2 hP LH_does_S
    replace hD := vD_eq2 hD LH_does_S
    have h9 := mem1 hcd
    have hEx : E = "java/lang/IndexOutOfBoundsException" := by rw [hEx, h9]; rfl
    subst hEx
    refine vx_catch (own := RL) (name := "java/lang/IndexOutOfBoundsException") hown [] ⟨0, 5, 6, 13⟩ [] htab (fun z hz => by cases hz) rfl (by decide) (hts _ cl_13) (hE.1.use xc_3 _) hce hcv hcl ?_
    refine lv_astore_n (lv' := [(2, .ref q9), (0, .ref h), (1, .int x)]) hx hb dL_tryDoes_6 rfl hl (by decide) rfl (fun ls hl => ?_)
    refine lv_ldc (v := (-9999001)) hx hb hown (hts _ kc_L_15) dL_tryDoes_7 ?_
    have hr9 : xr Z.1 Z.2.1 = (-9999001) := by rw [h9]; rfl
    exact fin_g X hr hlocks hP hD hS ⟨⟨ad, t, sa, ra, ma, b6, b7, q, tq, sg, g, u, Z.2.2, g4, u4, rv4, mq, r, mg, mu, mr, s0, g6, u6, rv6, s1, g7, u7, rv7, rfl, M2, S02, S12, ST2, n02⟩, (hr9.symm.trans hans)⟩ OBW_ads dL_tryDoes_9
  · replace hP := vP_eq2 hP LH_does_S
    replace hD := vD_eq2 hD LH_does_S
    have hr9 : xr Z.1 Z.2.1 = Z.2.1 := by rw [hcd]; rfl
    exact fin_g X hr hlocks hP hD hS ⟨⟨ad, t, sa, ra, ma, b6, b7, q, tq, sg, g, u, Z.2.2, g4, u4, rv4, mq, r, mg, mu, mr, s0, g6, u6, rv6, s1, g7, u7, rv7, rfl, M2, S02, S12, ST2, n02⟩, (hr9.symm.trans hans)⟩ OBW_ads dL_tryDoes_5
