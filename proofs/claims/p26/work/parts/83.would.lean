/-! spare and bestShut, called by the law -/
set_option maxRecDepth 100000 in
theorem LH_spare_C {kk : Nat → ClassId} {h : Nat} {ad : Nat → Nat → Nat} {t : Nat} {sa : Nat} {ra : Nat} {ma : Nat → Nat → Nat} {b6 : Nat → Nat} {b7 : Nat → Nat} {q : Nat → Int32} {tq : Nat → Int32} {sg : Nat → Int32} {g : Nat → Int32} {u : Nat → Int32} {rv : Nat → Nat → Int32} {g4 : Nat → Int32} {u4 : Nat → Int32} {rv4 : Nat → Nat → Int32} {mq : Nat → Int32} {r : Nat → Nat} {mg : Nat → Nat → Int32} {mu : Nat → Nat → Int32} {mr : Nat → Nat → Nat → Int32} {s0 : Nat → Int32} {g6 : Nat → Int32} {u6 : Nat → Int32} {rv6 : Nat → Nat → Int32} {s1 : Nat → Int32} {g7 : Nat → Int32} {u7 : Nat → Int32} {rv7 : Nat → Nat → Int32} : ([0] ++ (List.range' 13 9)).map (fun i => (OBW kk h ad t sa ra ma b6 b7 q tq sg g u rv g4 u4 rv4 mq r mg mu mr s0 g6 u6 rv6 s1 g7 u7 rv7)[i]?) = List.map some ([(h, .inr (7, mrG ad))] ++ (stW kk (ad 3) g u rv)) := (mp_b (mp_c LC_0 mp_nil) LC_5)
set_option maxRecDepth 100000 in
set_option maxHeartbeats 4000000 in
theorem k_spare1 {p : Program} {l : Launch} {e : Env} {R : Room} {s : State} {m : MethodId} {args : Array Value} {below : List Frame} {meth : Method} {c : Code} {H : Heap} {locs : List Loc} {cells slots : Nat} {Q : State → Prop} {cc : ByteArray} {pc nL : Nat} {ls : Array Slot} {rest st0 : List Value} {G : va_G} {kk : Nat → ClassId} {A : Nat → Prop} {ws : va_W} {own : String} {index : Nat} {B : Nat} {σ : SG} {h : Nat} (X : LM p l e R s m args below meth c cc nL own G kk A) (hB : B ≤ 90000) (o : OB kk B σ h ws) (hP : va_P G vwCl (ws) H) (hD : va_D A (ws)) (hS : va_S A s.heap H locs) (hl : ls.size = nL)
    (vl : VL own index yX7_spare cX7_spare 1 (some .int) 0) (hrm : RF (rmO 2 44) R 1) (hcs : cells ≤ R.cells ∧ slots ≤ R.slots) (hst : st0 = .ref h :: rest) (hWr : (rest.map fun v => v.category).sum ≤ 8) (hdg : decode cc pc = .ok (.invokevirtual index, 3))
    (k : ∀ (w1 : va_W) (H1 : Heap) (locs1 : List Loc), OB kk B σ h w1 → w1.map (fun q => q.1) = ws.map (fun q => q.1) → va_P G vwCl (w1) H1 → va_D A (w1) → va_S A s.heap H1 locs1 → W p l e R s m args below meth c H1 locs1 cells slots Q (F0 m (pc + 3) ls (.int (qSpare σ.1) :: rest))) : W p l e R s m args below meth c H locs cells slots Q (F0 m pc ls st0) := by
  have o9 := o
  obtain ⟨hx, hb, hml, hown, hts, hK, hA, hE, hN⟩ := X
  obtain ⟨ad, t, sa, ra, ma, b6, b7, q, tq, sg, g, u, rv, g4, u4, rv4, mq, r, mg, mu, mr, s0, g6, u6, rv6, s1, g7, u7, rv7, rfl, M, S0, S1, ⟨n1, sr, ok⟩, n0⟩ := o
  have hcx := c_X7_spare l G kk h ad g u rv 
  have hans := k_spare (by omega) sr ok.1
  generalize sX7_spare g u rv = Z at hcx hans
  refine k_goI (k_runV (rest := rest) (As := []) hx hb hml hown hts hK hP hD hS hA hE hl hcx vl rfl rfl rfl hrm ([0] ++ (List.range' 13 9)) (by decide +kernel) LH_spare_C hcs (by rw [hst]; rfl) hWr hdg) hP hD hS hA ([0] ++ (List.range' 13 9)) LH_spare_C (ads_app ads1 st_ads) (fun H locs hP hD hS => ?_)
  replace hP := vP_eq2 hP (sm_same LH_spare_C)
  replace hD := vD_eq2 hD (sm_same LH_spare_C)
  refine top_eq (y := qSpare σ.1) (hans) ?_
  exact k _ _ _ o9 OBW_ads hP hD hS
set_option maxRecDepth 100000 in
set_option maxHeartbeats 4000000 in
theorem k_spareL {p : Program} {l : Launch} {e : Env} {R : Room} {s : State} {m : MethodId} {args : Array Value} {below : List Frame} {meth : Method} {c : Code} {H : Heap} {locs : List Loc} {cells slots : Nat} {Q : State → Prop} {cc : ByteArray} {pc nL : Nat} {ls : Array Slot} {rest st0 : List Value} {G : va_G} {kk : Nat → ClassId} {A : Nat → Prop} {ws wb : va_W} {own : String} {index : Nat} {B : Nat} {σ : SG} {h : Nat} (X : LM p l e R s m args below meth c cc nL own G kk A) (hB : B ≤ 90000) (o : OB kk B σ h ws) (hP : va_P G vwCl (ws ++ wb) H) (hD : va_D A (ws ++ wb)) (hS : va_S A s.heap H locs) (hl : ls.size = nL)
    (vl : VL own index yX7_spare cX7_spare 1 (some .int) 0) (hrm : RF (rmO 2 44) R 1) (hcs : cells ≤ R.cells ∧ slots ≤ R.slots) (hst : st0 = .ref h :: rest) (hWr : (rest.map fun v => v.category).sum ≤ 8) (hdg : decode cc pc = .ok (.invokevirtual index, 3))
    (k : ∀ (w1 : va_W) (H1 : Heap) (locs1 : List Loc), OB kk B σ h w1 → w1.map (fun q => q.1) = ws.map (fun q => q.1) → va_P G vwCl (w1 ++ wb) H1 → va_D A (w1 ++ wb) → va_S A s.heap H1 locs1 → W p l e R s m args below meth c H1 locs1 cells slots Q (F0 m (pc + 3) ls (.int (qSpare σ.1) :: rest))) : W p l e R s m args below meth c H locs cells slots Q (F0 m pc ls st0) := by
  have o9 := o
  obtain ⟨hx, hb, hml, hown, hts, hK, hA, hE, hN⟩ := X
  obtain ⟨ad, t, sa, ra, ma, b6, b7, q, tq, sg, g, u, rv, g4, u4, rv4, mq, r, mg, mu, mr, s0, g6, u6, rv6, s1, g7, u7, rv7, rfl, M, S0, S1, ⟨n1, sr, ok⟩, n0⟩ := o
  have hcx := c_X7_spare l G kk h ad g u rv 
  have hans := k_spare (by omega) sr ok.1
  generalize sX7_spare g u rv = Z at hcx hans
  refine k_goI (k_runV (rest := rest) (As := []) hx hb hml hown hts hK hP hD hS hA hE hl hcx vl rfl rfl rfl hrm ([0] ++ (List.range' 13 9)) (by decide +kernel) (embL_C LH_spare_C) hcs (by rw [hst]; rfl) hWr hdg) hP hD hS hA ([0] ++ (List.range' 13 9)) (embL_C LH_spare_C) (ads_app ads1 st_ads) (fun H locs hP hD hS => ?_)
  replace hP := vP_eq2 hP (sm_same (embL_C LH_spare_C))
  replace hD := vD_eq2 hD (sm_same (embL_C LH_spare_C))
  refine top_eq (y := qSpare σ.1) (hans) ?_
  exact k _ _ _ o9 OBW_ads hP hD hS
set_option maxRecDepth 100000 in
set_option maxHeartbeats 4000000 in
theorem k_spareR {p : Program} {l : Launch} {e : Env} {R : Room} {s : State} {m : MethodId} {args : Array Value} {below : List Frame} {meth : Method} {c : Code} {H : Heap} {locs : List Loc} {cells slots : Nat} {Q : State → Prop} {cc : ByteArray} {pc nL : Nat} {ls : Array Slot} {rest st0 : List Value} {G : va_G} {kk : Nat → ClassId} {A : Nat → Prop} {ws wa : va_W} {own : String} {index : Nat} {B : Nat} {σ : SG} {h : Nat} (X : LM p l e R s m args below meth c cc nL own G kk A) (hB : B ≤ 90000) (o : OB kk B σ h ws) (hna : wa.length = 179) (hP : va_P G vwCl (wa ++ ws) H) (hD : va_D A (wa ++ ws)) (hS : va_S A s.heap H locs) (hl : ls.size = nL)
    (vl : VL own index yX7_spare cX7_spare 1 (some .int) 0) (hrm : RF (rmO 2 44) R 1) (hcs : cells ≤ R.cells ∧ slots ≤ R.slots) (hst : st0 = .ref h :: rest) (hWr : (rest.map fun v => v.category).sum ≤ 8) (hdg : decode cc pc = .ok (.invokevirtual index, 3))
    (k : ∀ (w1 : va_W) (H1 : Heap) (locs1 : List Loc), OB kk B σ h w1 → w1.map (fun q => q.1) = ws.map (fun q => q.1) → va_P G vwCl (wa ++ w1) H1 → va_D A (wa ++ w1) → va_S A s.heap H1 locs1 → W p l e R s m args below meth c H1 locs1 cells slots Q (F0 m (pc + 3) ls (.int (qSpare σ.1) :: rest))) : W p l e R s m args below meth c H locs cells slots Q (F0 m pc ls st0) := by
  have o9 := o
  obtain ⟨hx, hb, hml, hown, hts, hK, hA, hE, hN⟩ := X
  obtain ⟨ad, t, sa, ra, ma, b6, b7, q, tq, sg, g, u, rv, g4, u4, rv4, mq, r, mg, mu, mr, s0, g6, u6, rv6, s1, g7, u7, rv7, rfl, M, S0, S1, ⟨n1, sr, ok⟩, n0⟩ := o
  have hcx := c_X7_spare l G kk h ad g u rv 
  have hans := k_spare (by omega) sr ok.1
  generalize sX7_spare g u rv = Z at hcx hans
  refine k_goI (k_runV (rest := rest) (As := []) hx hb hml hown hts hK hP hD hS hA hE hl hcx vl rfl rfl rfl hrm (([0] ++ (List.range' 13 9)).map (fun i => 179 + i)) (by decide +kernel) (embR_C hna LH_spare_C) hcs (by rw [hst]; rfl) hWr hdg) hP hD hS hA (([0] ++ (List.range' 13 9)).map (fun i => 179 + i)) (embR_C hna LH_spare_C) (ads_app ads1 st_ads) (fun H locs hP hD hS => ?_)
  replace hP := vP_eq2 hP (sm_same (embR_C hna LH_spare_C))
  replace hD := vD_eq2 hD (sm_same (embR_C hna LH_spare_C))
  refine top_eq (y := qSpare σ.1) (hans) ?_
  exact k _ _ _ o9 OBW_ads hP hD hS
set_option maxRecDepth 100000 in
theorem LH_bestShut_C {kk : Nat → ClassId} {h : Nat} {ad : Nat → Nat → Nat} {t : Nat} {sa : Nat} {ra : Nat} {ma : Nat → Nat → Nat} {b6 : Nat → Nat} {b7 : Nat → Nat} {q : Nat → Int32} {tq : Nat → Int32} {sg : Nat → Int32} {g : Nat → Int32} {u : Nat → Int32} {rv : Nat → Nat → Int32} {g4 : Nat → Int32} {u4 : Nat → Int32} {rv4 : Nat → Nat → Int32} {mq : Nat → Int32} {r : Nat → Nat} {mg : Nat → Nat → Int32} {mu : Nat → Nat → Int32} {mr : Nat → Nat → Nat → Int32} {s0 : Nat → Int32} {g6 : Nat → Int32} {u6 : Nat → Int32} {rv6 : Nat → Nat → Int32} {s1 : Nat → Int32} {g7 : Nat → Int32} {u7 : Nat → Int32} {rv7 : Nat → Nat → Int32} : ([0] ++ (List.range' 22 9 ++ (List.range' 13 9))).map (fun i => (OBW kk h ad t sa ra ma b6 b7 q tq sg g u rv g4 u4 rv4 mq r mg mu mr s0 g6 u6 rv6 s1 g7 u7 rv7)[i]?) = List.map some ([(h, .inr (7, mrG ad))] ++ (stW kk (ad 4) g4 u4 rv4 ++ (stW kk (ad 3) g u rv))) := (mp_b (mp_c LC_0 mp_nil) (mp_b LC_6 LC_5))
set_option maxRecDepth 100000 in
theorem LH_bestShut_S {kk : Nat → ClassId} {h : Nat} {ad : Nat → Nat → Nat} {t : Nat} {sa : Nat} {ra : Nat} {ma : Nat → Nat → Nat} {b6 : Nat → Nat} {b7 : Nat → Nat} {q : Nat → Int32} {tq : Nat → Int32} {sg : Nat → Int32} {g : Nat → Int32} {u : Nat → Int32} {rv : Nat → Nat → Int32} {g4 : Nat → Int32} {u4 : Nat → Int32} {rv4 : Nat → Nat → Int32} {mq : Nat → Int32} {r : Nat → Nat} {mg : Nat → Nat → Int32} {mu : Nat → Nat → Int32} {mr : Nat → Nat → Nat → Int32} {s0 : Nat → Int32} {g6 : Nat → Int32} {u6 : Nat → Int32} {rv6 : Nat → Nat → Int32} {s1 : Nat → Int32} {g7 : Nat → Int32} {u7 : Nat → Int32} {rv7 : Nat → Nat → Int32} {g4' : Nat → Int32} {u4' : Nat → Int32} {rv4' : Nat → Nat → Int32} : setMany (OBW kk h ad t sa ra ma b6 b7 q tq sg g u rv g4 u4 rv4 mq r mg mu mr s0 g6 u6 rv6 s1 g7 u7 rv7) ([0] ++ (List.range' 22 9 ++ (List.range' 13 9))) ([(h, .inr (7, mrG ad))] ++ (stW kk (ad 4) (g4') (u4') (rv4') ++ (stW kk (ad 3) g u rv))) = OBW kk h ad t sa ra ma b6 b7 q tq sg g u rv g4' u4' rv4' mq r mg mu mr s0 g6 u6 rv6 s1 g7 u7 rv7 := (sm_b (sm_c LS_0 rfl) rfl (sm_b LS_6 rl_st LS_5))
set_option maxRecDepth 100000 in
set_option maxHeartbeats 4000000 in
theorem k_bestShut1 {p : Program} {l : Launch} {e : Env} {R : Room} {s : State} {m : MethodId} {args : Array Value} {below : List Frame} {meth : Method} {c : Code} {H : Heap} {locs : List Loc} {cells slots : Nat} {Q : State → Prop} {cc : ByteArray} {pc nL : Nat} {ls : Array Slot} {rest st0 : List Value} {G : va_G} {kk : Nat → ClassId} {A : Nat → Prop} {ws : va_W} {own : String} {index : Nat} {B : Nat} {σ : SG} {h : Nat} (X : LM p l e R s m args below meth c cc nL own G kk A) (hB : B ≤ 90000) (o : OB kk B σ h ws) (hP : va_P G vwCl (ws) H) (hD : va_D A (ws)) (hS : va_S A s.heap H locs) (hl : ls.size = nL)
    (vl : VL own index yX7_bestShut cX7_bestShut 6 (some .int) 0) (hrm : RF (rmO 6 142) R 6) (hcs : cells ≤ R.cells ∧ slots ≤ R.slots) (hst : st0 = .ref h :: rest) (hWr : (rest.map fun v => v.category).sum ≤ 8) (hdg : decode cc pc = .ok (.invokevirtual index, 3))
    (k : ∀ (w1 : va_W) (H1 : Heap) (locs1 : List Loc), OB kk B σ h w1 → w1.map (fun q => q.1) = ws.map (fun q => q.1) → va_P G vwCl (w1) H1 → va_D A (w1) → va_S A s.heap H1 locs1 → W p l e R s m args below meth c H1 locs1 cells slots Q (F0 m (pc + 3) ls (.int (qBest σ.1) :: rest))) : W p l e R s m args below meth c H locs cells slots Q (F0 m pc ls st0) := by
  have o9 := o
  obtain ⟨hx, hb, hml, hown, hts, hK, hA, hE, hN⟩ := X
  obtain ⟨ad, t, sa, ra, ma, b6, b7, q, tq, sg, g, u, rv, g4, u4, rv4, mq, r, mg, mu, mr, s0, g6, u6, rv6, s1, g7, u7, rv7, rfl, M, S0, S1, ⟨n1, sr, ok⟩, n0⟩ := o
  have hcx := c_X7_bestShut l G kk h ad g4 u4 rv4 g u rv (sm_zb sr ok.1)
  have hans := k_best (g4 := g4) (u4 := u4) (by omega) n0 sr ok.1
  generalize sX7_bestShut g4 u4 rv4 g u rv = Z at hcx hans
  refine k_goI (k_runV (rest := rest) (As := []) hx hb hml hown hts hK hP hD hS hA hE hl hcx vl rfl rfl rfl hrm ([0] ++ (List.range' 22 9 ++ (List.range' 13 9))) (by decide +kernel) LH_bestShut_C hcs (by rw [hst]; rfl) hWr hdg) hP hD hS hA ([0] ++ (List.range' 22 9 ++ (List.range' 13 9))) LH_bestShut_C (ads_app ads1 (ads_app st_ads st_ads)) (fun H locs hP hD hS => ?_)
  replace hP := vP_eq2 hP LH_bestShut_S
  replace hD := vD_eq2 hD LH_bestShut_S
  refine top_eq (y := qBest σ.1) (hans.1) ?_
  exact k _ _ _ ⟨ad, t, sa, ra, ma, b6, b7, q, tq, sg, g, u, rv, Z.2.1, Z.2.2.1, Z.2.2.2, mq, r, mg, mu, mr, s0, g6, u6, rv6, s1, g7, u7, rv7, rfl, M, S0, S1, ⟨n1, sr, ok⟩, hans.2⟩ OBW_ads hP hD hS
set_option maxRecDepth 100000 in
set_option maxHeartbeats 4000000 in
theorem k_bestShutL {p : Program} {l : Launch} {e : Env} {R : Room} {s : State} {m : MethodId} {args : Array Value} {below : List Frame} {meth : Method} {c : Code} {H : Heap} {locs : List Loc} {cells slots : Nat} {Q : State → Prop} {cc : ByteArray} {pc nL : Nat} {ls : Array Slot} {rest st0 : List Value} {G : va_G} {kk : Nat → ClassId} {A : Nat → Prop} {ws wb : va_W} {own : String} {index : Nat} {B : Nat} {σ : SG} {h : Nat} (X : LM p l e R s m args below meth c cc nL own G kk A) (hB : B ≤ 90000) (o : OB kk B σ h ws) (hP : va_P G vwCl (ws ++ wb) H) (hD : va_D A (ws ++ wb)) (hS : va_S A s.heap H locs) (hl : ls.size = nL)
    (vl : VL own index yX7_bestShut cX7_bestShut 6 (some .int) 0) (hrm : RF (rmO 6 142) R 6) (hcs : cells ≤ R.cells ∧ slots ≤ R.slots) (hst : st0 = .ref h :: rest) (hWr : (rest.map fun v => v.category).sum ≤ 8) (hdg : decode cc pc = .ok (.invokevirtual index, 3))
    (k : ∀ (w1 : va_W) (H1 : Heap) (locs1 : List Loc), OB kk B σ h w1 → w1.map (fun q => q.1) = ws.map (fun q => q.1) → va_P G vwCl (w1 ++ wb) H1 → va_D A (w1 ++ wb) → va_S A s.heap H1 locs1 → W p l e R s m args below meth c H1 locs1 cells slots Q (F0 m (pc + 3) ls (.int (qBest σ.1) :: rest))) : W p l e R s m args below meth c H locs cells slots Q (F0 m pc ls st0) := by
  have o9 := o
  obtain ⟨hx, hb, hml, hown, hts, hK, hA, hE, hN⟩ := X
  obtain ⟨ad, t, sa, ra, ma, b6, b7, q, tq, sg, g, u, rv, g4, u4, rv4, mq, r, mg, mu, mr, s0, g6, u6, rv6, s1, g7, u7, rv7, rfl, M, S0, S1, ⟨n1, sr, ok⟩, n0⟩ := o
  have hcx := c_X7_bestShut l G kk h ad g4 u4 rv4 g u rv (sm_zb sr ok.1)
  have hans := k_best (g4 := g4) (u4 := u4) (by omega) n0 sr ok.1
  generalize sX7_bestShut g4 u4 rv4 g u rv = Z at hcx hans
  refine k_goI (k_runV (rest := rest) (As := []) hx hb hml hown hts hK hP hD hS hA hE hl hcx vl rfl rfl rfl hrm ([0] ++ (List.range' 22 9 ++ (List.range' 13 9))) (by decide +kernel) (embL_C LH_bestShut_C) hcs (by rw [hst]; rfl) hWr hdg) hP hD hS hA ([0] ++ (List.range' 22 9 ++ (List.range' 13 9))) (embL_C LH_bestShut_C) (ads_app ads1 (ads_app st_ads st_ads)) (fun H locs hP hD hS => ?_)
  replace hP := vP_eq2 hP ((embL_S (map_lt LH_bestShut_C)).trans (congrArg (fun w => w ++ wb) LH_bestShut_S))
  replace hD := vD_eq2 hD ((embL_S (map_lt LH_bestShut_C)).trans (congrArg (fun w => w ++ wb) LH_bestShut_S))
  refine top_eq (y := qBest σ.1) (hans.1) ?_
  exact k _ _ _ ⟨ad, t, sa, ra, ma, b6, b7, q, tq, sg, g, u, rv, Z.2.1, Z.2.2.1, Z.2.2.2, mq, r, mg, mu, mr, s0, g6, u6, rv6, s1, g7, u7, rv7, rfl, M, S0, S1, ⟨n1, sr, ok⟩, hans.2⟩ OBW_ads hP hD hS
set_option maxRecDepth 100000 in
set_option maxHeartbeats 4000000 in
theorem k_bestShutR {p : Program} {l : Launch} {e : Env} {R : Room} {s : State} {m : MethodId} {args : Array Value} {below : List Frame} {meth : Method} {c : Code} {H : Heap} {locs : List Loc} {cells slots : Nat} {Q : State → Prop} {cc : ByteArray} {pc nL : Nat} {ls : Array Slot} {rest st0 : List Value} {G : va_G} {kk : Nat → ClassId} {A : Nat → Prop} {ws wa : va_W} {own : String} {index : Nat} {B : Nat} {σ : SG} {h : Nat} (X : LM p l e R s m args below meth c cc nL own G kk A) (hB : B ≤ 90000) (o : OB kk B σ h ws) (hna : wa.length = 179) (hP : va_P G vwCl (wa ++ ws) H) (hD : va_D A (wa ++ ws)) (hS : va_S A s.heap H locs) (hl : ls.size = nL)
    (vl : VL own index yX7_bestShut cX7_bestShut 6 (some .int) 0) (hrm : RF (rmO 6 142) R 6) (hcs : cells ≤ R.cells ∧ slots ≤ R.slots) (hst : st0 = .ref h :: rest) (hWr : (rest.map fun v => v.category).sum ≤ 8) (hdg : decode cc pc = .ok (.invokevirtual index, 3))
    (k : ∀ (w1 : va_W) (H1 : Heap) (locs1 : List Loc), OB kk B σ h w1 → w1.map (fun q => q.1) = ws.map (fun q => q.1) → va_P G vwCl (wa ++ w1) H1 → va_D A (wa ++ w1) → va_S A s.heap H1 locs1 → W p l e R s m args below meth c H1 locs1 cells slots Q (F0 m (pc + 3) ls (.int (qBest σ.1) :: rest))) : W p l e R s m args below meth c H locs cells slots Q (F0 m pc ls st0) := by
  have o9 := o
  obtain ⟨hx, hb, hml, hown, hts, hK, hA, hE, hN⟩ := X
  obtain ⟨ad, t, sa, ra, ma, b6, b7, q, tq, sg, g, u, rv, g4, u4, rv4, mq, r, mg, mu, mr, s0, g6, u6, rv6, s1, g7, u7, rv7, rfl, M, S0, S1, ⟨n1, sr, ok⟩, n0⟩ := o
  have hcx := c_X7_bestShut l G kk h ad g4 u4 rv4 g u rv (sm_zb sr ok.1)
  have hans := k_best (g4 := g4) (u4 := u4) (by omega) n0 sr ok.1
  generalize sX7_bestShut g4 u4 rv4 g u rv = Z at hcx hans
  refine k_goI (k_runV (rest := rest) (As := []) hx hb hml hown hts hK hP hD hS hA hE hl hcx vl rfl rfl rfl hrm (([0] ++ (List.range' 22 9 ++ (List.range' 13 9))).map (fun i => 179 + i)) (by decide +kernel) (embR_C hna LH_bestShut_C) hcs (by rw [hst]; rfl) hWr hdg) hP hD hS hA (([0] ++ (List.range' 22 9 ++ (List.range' 13 9))).map (fun i => 179 + i)) (embR_C hna LH_bestShut_C) (ads_app ads1 (ads_app st_ads st_ads)) (fun H locs hP hD hS => ?_)
  replace hP := vP_eq2 hP ((embR_S hna).trans (congrArg (fun w => wa ++ w) LH_bestShut_S))
  replace hD := vD_eq2 hD ((embR_S hna).trans (congrArg (fun w => wa ++ w) LH_bestShut_S))
  refine top_eq (y := qBest σ.1) (hans.1) ?_
  exact k _ _ _ ⟨ad, t, sa, ra, ma, b6, b7, q, tq, sg, g, u, rv, Z.2.1, Z.2.2.1, Z.2.2.2, mq, r, mg, mu, mr, s0, g6, u6, rv6, s1, g7, u7, rv7, rfl, M, S0, S1, ⟨n1, sr, ok⟩, hans.2⟩ OBW_ads hP hD hS
