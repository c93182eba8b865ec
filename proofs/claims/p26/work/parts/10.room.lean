def sX2_isThere (r : Nat → Int32) : Int32 :=
  (if (r 1) ≤ 0 then 0 else 1)
set_option maxRecDepth 100000 in
set_option maxHeartbeats 4000000 in
theorem c_X2_isThere (l : Launch) (G : va_G) (kk : Nat → ClassId) (h : Nat) (r : Nat → Int32)  : CC l yX2_isThere cX2_isThere 1 (some .boolean) (rmO 0 0) [.ref h] G kk ([(h, .inr (2, rmF r))]) (QI G kk ([(h, .inr (2, rmF r))]) (sX2_isThere r)) := by
  refine cc_start (by decide +kernel) (Nat.le_of_ble_eq_true rfl) ?_
  intro p e s m below meth c A ls hx hb hr hml hown hts hlocks hA hE hK hP hD hS hl
  have hown : s.vm.findClass RX2 = some m.cls := hown
  have hl : lv_has ls 1 [(0, .ref h)] := hl
  have eS : sX2_isThere r = sX2_isThere r := rfl
  refine lv_aload_n hx hb dX2_isThere_0 rfl (lv_at hl 0 rfl) ?_
  refine r_get (v := .int (r 1)) hx hb hts hown hK hP fl_X2_15 0 rfl rfl dX2_isThere_1 ?_
  refine lv_if_le (tgt := 11) hx hb dX2_isThere_4 (by decide) (fun c_4 => ?_) (fun c_4 => ?_)
  · have eS := eS.trans (if_pos c_4)
    refine lv_iconst (v := 0) hx hb dX2_isThere_11 (by decide) ?_
    exact fin_z hx hb hr hlocks hK hP hD hS eS rfl dX2_isThere_12
  · have eS := eS.trans (if_neg c_4)
    refine lv_iconst (v := 1) hx hb dX2_isThere_7 (by decide) ?_
    refine lv_goto (tgt := 12) hx hb dX2_isThere_8 (by decide) ?_
    exact fin_z hx hb hr hlocks hK hP hD hS eS rfl dX2_isThere_12
def sX2_warmth (r : Nat → Int32) : Int32 :=
  ((r 4) - (r 3))
set_option maxRecDepth 100000 in
set_option maxHeartbeats 4000000 in
theorem c_X2_warmth (l : Launch) (G : va_G) (kk : Nat → ClassId) (h : Nat) (r : Nat → Int32)  : CC l yX2_warmth cX2_warmth 1 (some .int) (rmO 0 0) [.ref h] G kk ([(h, .inr (2, rmF r))]) (QI G kk ([(h, .inr (2, rmF r))]) (sX2_warmth r)) := by
  refine cc_start (by decide +kernel) (Nat.le_of_ble_eq_true rfl) ?_
  intro p e s m below meth c A ls hx hb hr hml hown hts hlocks hA hE hK hP hD hS hl
  have hown : s.vm.findClass RX2 = some m.cls := hown
  have hl : lv_has ls 1 [(0, .ref h)] := hl
  have eS : sX2_warmth r = sX2_warmth r := rfl
  refine lv_aload_n hx hb dX2_warmth_0 rfl (lv_at hl 0 rfl) ?_
  refine r_get (v := .int (r 4)) hx hb hts hown hK hP fl_X2_24 0 rfl rfl dX2_warmth_1 ?_
  refine lv_aload_n hx hb dX2_warmth_4 rfl (lv_at hl 0 rfl) ?_
  refine r_get (v := .int (r 3)) hx hb hts hown hK hP fl_X2_21 0 rfl rfl dX2_warmth_5 ?_
  refine lv_isub hx hb dX2_warmth_8 ?_
  exact fin_i hx hb hr hlocks hK hP hD hS eS dX2_warmth_9
def sX2_isWarm (r : Nat → Int32) : Int32 :=
  (if (r 4) < (r 3) then 0 else 1)
set_option maxRecDepth 100000 in
set_option maxHeartbeats 4000000 in
theorem c_X2_isWarm (l : Launch) (G : va_G) (kk : Nat → ClassId) (h : Nat) (r : Nat → Int32)  : CC l yX2_isWarm cX2_isWarm 1 (some .boolean) (rmO 0 0) [.ref h] G kk ([(h, .inr (2, rmF r))]) (QI G kk ([(h, .inr (2, rmF r))]) (sX2_isWarm r)) := by
  refine cc_start (by decide +kernel) (Nat.le_of_ble_eq_true rfl) ?_
  intro p e s m below meth c A ls hx hb hr hml hown hts hlocks hA hE hK hP hD hS hl
  have hown : s.vm.findClass RX2 = some m.cls := hown
  have hl : lv_has ls 1 [(0, .ref h)] := hl
  have eS : sX2_isWarm r = sX2_isWarm r := rfl
  refine lv_aload_n hx hb dX2_isWarm_0 rfl (lv_at hl 0 rfl) ?_
  refine r_get (v := .int (r 4)) hx hb hts hown hK hP fl_X2_24 0 rfl rfl dX2_isWarm_1 ?_
  refine lv_aload_n hx hb dX2_isWarm_4 rfl (lv_at hl 0 rfl) ?_
  refine r_get (v := .int (r 3)) hx hb hts hown hK hP fl_X2_21 0 rfl rfl dX2_isWarm_5 ?_
  refine lv_icmp_lt (tgt := 15) hx hb dX2_isWarm_8 (by decide) (fun c_8 => ?_) (fun c_8 => ?_)
  · have eS := eS.trans (if_pos c_8)
    refine lv_iconst (v := 0) hx hb dX2_isWarm_15 (by decide) ?_
    exact fin_z hx hb hr hlocks hK hP hD hS eS rfl dX2_isWarm_16
  · have eS := eS.trans (if_neg c_8)
    refine lv_iconst (v := 1) hx hb dX2_isWarm_11 (by decide) ?_
    refine lv_goto (tgt := 16) hx hb dX2_isWarm_12 (by decide) ?_
    exact fin_z hx hb hr hlocks hK hP hD hS eS rfl dX2_isWarm_16
def sX2_planMust (r : Nat → Int32) : Int32 :=
  (if (r 1) = 0 then 8 else (if (r 7) ≤ 0 then (if (r 4) < (r 3) then (if (r 6) < 100 then 7 else 2) else 1) else 0))
set_option maxRecDepth 100000 in
set_option maxHeartbeats 4000000 in
theorem c_X2_planMust (l : Launch) (G : va_G) (kk : Nat → ClassId) (h : Nat) (r : Nat → Int32)  : CC l yX2_planMust cX2_planMust 1 (some .int) (rmO 0 0) [.ref h] G kk ([(h, .inr (2, rmF r))]) (QI G kk ([(h, .inr (2, rmF r))]) (sX2_planMust r)) := by
  refine cc_start (by decide +kernel) (Nat.le_of_ble_eq_true rfl) ?_
  intro p e s m below meth c A ls hx hb hr hml hown hts hlocks hA hE hK hP hD hS hl
  have hown : s.vm.findClass RX2 = some m.cls := hown
  have hl : lv_has ls 1 [(0, .ref h)] := hl
  have eS : sX2_planMust r = sX2_planMust r := rfl
  refine lv_aload_n hx hb dX2_planMust_0 rfl (lv_at hl 0 rfl) ?_
  refine r_get (v := .int (r 1)) hx hb hts hown hK hP fl_X2_15 0 rfl rfl dX2_planMust_1 ?_
  refine lv_if_ne (tgt := 10) hx hb dX2_planMust_4 (by decide) (fun c_4 => ?_) (fun c_4 => ?_)
  · have eS := eS.trans (if_neg c_4)
    refine lv_aload_n hx hb dX2_planMust_10 rfl (lv_at hl 0 rfl) ?_
    refine r_get (v := .int (r 7)) hx hb hts hown hK hP fl_X2_34 0 rfl rfl dX2_planMust_11 ?_
    refine lv_if_le (tgt := 19) hx hb dX2_planMust_14 (by decide) (fun c_14 => ?_) (fun c_14 => ?_)
    · have eS := eS.trans (if_pos c_14)
      refine lv_aload_n hx hb dX2_planMust_19 rfl (lv_at hl 0 rfl) ?_
      refine r_get (v := .int (r 4)) hx hb hts hown hK hP fl_X2_24 0 rfl rfl dX2_planMust_20 ?_
      refine lv_aload_n hx hb dX2_planMust_23 rfl (lv_at hl 0 rfl) ?_
      refine r_get (v := .int (r 3)) hx hb hts hown hK hP fl_X2_21 0 rfl rfl dX2_planMust_24 ?_
      refine lv_icmp_lt (tgt := 32) hx hb dX2_planMust_27 (by decide) (fun c_27 => ?_) (fun c_27 => ?_)
      · have eS := eS.trans (if_pos c_27)
        refine lv_aload_n hx hb dX2_planMust_32 rfl (lv_at hl 0 rfl) ?_
        refine r_get (v := .int (r 6)) hx hb hts hown hK hP fl_X2_31 0 rfl rfl dX2_planMust_33 ?_
        refine lv_bipush (v := 100) hx hb dX2_planMust_36 (by decide) ?_
        refine lv_icmp_lt (tgt := 45) hx hb dX2_planMust_38 (by decide) (fun c_38 => ?_) (fun c_38 => ?_)
        · have eS := eS.trans (if_pos c_38)
          refine lv_bipush (v := 7) hx hb dX2_planMust_45 (by decide) ?_
          exact fin_i hx hb hr hlocks hK hP hD hS eS dX2_planMust_47
        · have eS := eS.trans (if_neg c_38)
          refine lv_iconst (v := 2) hx hb dX2_planMust_41 (by decide) ?_
          refine lv_goto (tgt := 47) hx hb dX2_planMust_42 (by decide) ?_
          exact fin_i hx hb hr hlocks hK hP hD hS eS dX2_planMust_47
      · have eS := eS.trans (if_neg c_27)
        refine lv_iconst (v := 1) hx hb dX2_planMust_30 (by decide) ?_
        exact fin_i hx hb hr hlocks hK hP hD hS eS dX2_planMust_31
    · have eS := eS.trans (if_neg c_14)
      refine lv_iconst (v := 0) hx hb dX2_planMust_17 (by decide) ?_
      exact fin_i hx hb hr hlocks hK hP hD hS eS dX2_planMust_18
  · have eS := eS.trans (if_pos c_4)
    refine lv_bipush (v := 8) hx hb dX2_planMust_7 (by decide) ?_
    exact fin_i hx hb hr hlocks hK hP hD hS eS dX2_planMust_9
def sX2_isHeated (r : Nat → Int32) : Int32 :=
  (if (r 9) = 0 then 1 else (if (r 9) = 2 then 1 else (if (r 9) = 5 then 1 else 0)))
set_option maxRecDepth 100000 in
set_option maxHeartbeats 4000000 in
theorem c_X2_isHeated (l : Launch) (G : va_G) (kk : Nat → ClassId) (h : Nat) (r : Nat → Int32)  : CC l yX2_isHeated cX2_isHeated 1 (some .boolean) (rmO 0 0) [.ref h] G kk ([(h, .inr (2, rmF r))]) (QI G kk ([(h, .inr (2, rmF r))]) (sX2_isHeated r)) := by
  refine cc_start (by decide +kernel) (Nat.le_of_ble_eq_true rfl) ?_
  intro p e s m below meth c A ls hx hb hr hml hown hts hlocks hA hE hK hP hD hS hl
  have hown : s.vm.findClass RX2 = some m.cls := hown
  have hl : lv_has ls 1 [(0, .ref h)] := hl
  have eS : sX2_isHeated r = sX2_isHeated r := rfl
  refine lv_aload_n hx hb dX2_isHeated_0 rfl (lv_at hl 0 rfl) ?_
  refine r_get (v := .int (r 9)) hx hb hts hown hK hP fl_X2_40 0 rfl rfl dX2_isHeated_1 ?_
  refine lv_if_eq (tgt := 23) hx hb dX2_isHeated_4 (by decide) (fun c_4 => ?_) (fun c_4 => ?_)
  · have eS := eS.trans (if_pos c_4)
    refine lv_iconst (v := 1) hx hb dX2_isHeated_23 (by decide) ?_
    refine lv_goto (tgt := 28) hx hb dX2_isHeated_24 (by decide) ?_
    exact fin_z hx hb hr hlocks hK hP hD hS eS rfl dX2_isHeated_28
  · have eS := eS.trans (if_neg c_4)
    refine lv_aload_n hx hb dX2_isHeated_7 rfl (lv_at hl 0 rfl) ?_
    refine r_get (v := .int (r 9)) hx hb hts hown hK hP fl_X2_40 0 rfl rfl dX2_isHeated_8 ?_
    refine lv_iconst (v := 2) hx hb dX2_isHeated_11 (by decide) ?_
    refine lv_icmp_eq (tgt := 23) hx hb dX2_isHeated_12 (by decide) (fun c_12 => ?_) (fun c_12 => ?_)
    · have eS := eS.trans (if_pos c_12)
      refine lv_iconst (v := 1) hx hb dX2_isHeated_23 (by decide) ?_
      refine lv_goto (tgt := 28) hx hb dX2_isHeated_24 (by decide) ?_
      exact fin_z hx hb hr hlocks hK hP hD hS eS rfl dX2_isHeated_28
    · have eS := eS.trans (if_neg c_12)
      refine lv_aload_n hx hb dX2_isHeated_15 rfl (lv_at hl 0 rfl) ?_
      refine r_get (v := .int (r 9)) hx hb hts hown hK hP fl_X2_40 0 rfl rfl dX2_isHeated_16 ?_
      refine lv_iconst (v := 5) hx hb dX2_isHeated_19 (by decide) ?_
      refine lv_icmp_ne (tgt := 27) hx hb dX2_isHeated_20 (by decide) (fun c_20 => ?_) (fun c_20 => ?_)
      · have eS := eS.trans (if_neg c_20)
        refine lv_iconst (v := 0) hx hb dX2_isHeated_27 (by decide) ?_
        exact fin_z hx hb hr hlocks hK hP hD hS eS rfl dX2_isHeated_28
      · have eS := eS.trans (if_pos c_20)
        refine lv_iconst (v := 1) hx hb dX2_isHeated_23 (by decide) ?_
        refine lv_goto (tgt := 28) hx hb dX2_isHeated_24 (by decide) ?_
        exact fin_z hx hb hr hlocks hK hP hD hS eS rfl dX2_isHeated_28
def sX2_isCooled (r : Nat → Int32) : Int32 :=
  (if (r 9) = 1 then 1 else (if (r 9) = 3 then 1 else 0))
set_option maxRecDepth 100000 in
set_option maxHeartbeats 4000000 in
theorem c_X2_isCooled (l : Launch) (G : va_G) (kk : Nat → ClassId) (h : Nat) (r : Nat → Int32)  : CC l yX2_isCooled cX2_isCooled 1 (some .boolean) (rmO 0 0) [.ref h] G kk ([(h, .inr (2, rmF r))]) (QI G kk ([(h, .inr (2, rmF r))]) (sX2_isCooled r)) := by
  refine cc_start (by decide +kernel) (Nat.le_of_ble_eq_true rfl) ?_
  intro p e s m below meth c A ls hx hb hr hml hown hts hlocks hA hE hK hP hD hS hl
  have hown : s.vm.findClass RX2 = some m.cls := hown
  have hl : lv_has ls 1 [(0, .ref h)] := hl
  have eS : sX2_isCooled r = sX2_isCooled r := rfl
  refine lv_aload_n hx hb dX2_isCooled_0 rfl (lv_at hl 0 rfl) ?_
  refine r_get (v := .int (r 9)) hx hb hts hown hK hP fl_X2_40 0 rfl rfl dX2_isCooled_1 ?_
  refine lv_iconst (v := 1) hx hb dX2_isCooled_4 (by decide) ?_
  refine lv_icmp_eq (tgt := 16) hx hb dX2_isCooled_5 (by decide) (fun c_5 => ?_) (fun c_5 => ?_)
  · have eS := eS.trans (if_pos c_5)
    refine lv_iconst (v := 1) hx hb dX2_isCooled_16 (by decide) ?_
    refine lv_goto (tgt := 21) hx hb dX2_isCooled_17 (by decide) ?_
    exact fin_z hx hb hr hlocks hK hP hD hS eS rfl dX2_isCooled_21
  · have eS := eS.trans (if_neg c_5)
    refine lv_aload_n hx hb dX2_isCooled_8 rfl (lv_at hl 0 rfl) ?_
    refine r_get (v := .int (r 9)) hx hb hts hown hK hP fl_X2_40 0 rfl rfl dX2_isCooled_9 ?_
    refine lv_iconst (v := 3) hx hb dX2_isCooled_12 (by decide) ?_
    refine lv_icmp_ne (tgt := 20) hx hb dX2_isCooled_13 (by decide) (fun c_13 => ?_) (fun c_13 => ?_)
    · have eS := eS.trans (if_neg c_13)
      refine lv_iconst (v := 0) hx hb dX2_isCooled_20 (by decide) ?_
      exact fin_z hx hb hr hlocks hK hP hD hS eS rfl dX2_isCooled_21
    · have eS := eS.trans (if_pos c_13)
      refine lv_iconst (v := 1) hx hb dX2_isCooled_16 (by decide) ?_
      refine lv_goto (tgt := 21) hx hb dX2_isCooled_17 (by decide) ?_
      exact fin_z hx hb hr hlocks hK hP hD hS eS rfl dX2_isCooled_21
def sX2_changeTemperature_j44 (r : Nat → Int32) (x_1 : Int32) (x_2 : Int32) : (Nat → Int32) :=
  (upd r 4 (if (-400) < (if ((r 4) + x_2) < 400 then ((r 4) + x_2) else 400) then (if ((r 4) + x_2) < 400 then ((r 4) + x_2) else 400) else (-400)))
def sX2_changeTemperature_j34 (r : Nat → Int32) (x_1 : Int32) : (Nat → Int32) :=
  (sX2_changeTemperature_j44 r x_1 (if (r 5) = 0 then x_1 else (x_1 + 4)))
def sX2_changeTemperature (r : Nat → Int32) : (Nat → Int32) :=
  (sX2_changeTemperature_j34 r (if (sX2_isHeated r) = 0 then (if (sX2_isCooled r) = 0 then 1 else (-(8 - ((r 6) / 20)))) else 6))
set_option maxRecDepth 100000 in
set_option maxHeartbeats 4000000 in
theorem c_X2_changeTemperature (l : Launch) (G : va_G) (kk : Nat → ClassId) (h : Nat) (r : Nat → Int32)  : CC l yX2_changeTemperature cX2_changeTemperature 2 none (rmO 1 21) [.ref h] G kk ([(h, .inr (2, rmF r))]) (QV G kk ([(h, .inr (2, rmF (sX2_changeTemperature r)))])) := by
  refine cc_start (by decide +kernel) (Nat.le_of_ble_eq_true rfl) ?_
  intro p e s m below meth c A ls hx hb hr hml hown hts hlocks hA hE hK hP hD hS hl
  have hown : s.vm.findClass RX2 = some m.cls := hown
  have hl : lv_has ls 2 [(0, .ref h)] := hl
  have eS : sX2_changeTemperature r = sX2_changeTemperature r := rfl
  refine lv_iconst (v := 1) hx hb dX2_changeTemperature_0 (by decide) ?_
  refine lv_istore_n (lv' := [(1, .int 1), (0, .ref h)]) hx hb dX2_changeTemperature_1 rfl hl (by decide) rfl (fun ls hl => ?_)
  refine lv_aload_n hx hb dX2_changeTemperature_2 rfl (lv_at hl 1 rfl) ?_
  refine k_goI (k_runV (rest := []) (As := []) hx hb hml hown hts hK hP hD hS hA hE hl.1 (c_X2_isHeated l G kk h r ) vl_X2_43 rfl rfl rfl ⟨Nat.le_of_ble_eq_true rfl, Nat.le_of_ble_eq_true rfl, rfl, rfl⟩ [0] rfl rfl ⟨Nat.zero_le _, Nat.zero_le _⟩ rfl (Nat.le_of_ble_eq_true rfl) dX2_changeTemperature_3) hP hD hS hA [0] rfl ads1 (fun H locs hP hD hS => ?_)
  replace hP : va_P G vwCl ([(h, .inr (2, rmF r))]) H := hP
  replace hD : va_D A ([(h, .inr (2, rmF r))]) := hD
  have J_3 : ∀ (x_1 : Int32) (ex_1 : x_1 = (if (sX2_isHeated r) = 0 then (if (sX2_isCooled r) = 0 then 1 else (-(8 - ((r 6) / 20)))) else 6)) (eS : sX2_changeTemperature r = sX2_changeTemperature_j34 r x_1) (H : Heap) (locs : List Loc) (ls : Array Slot) (hP : va_P G vwCl ([(h, .inr (2, rmF r))]) H) (hD : va_D A ([(h, .inr (2, rmF r))])) (hS : va_S A s.heap H locs) (hl : lv_has ls 2 [(1, .int x_1), (0, .ref h)]), GO p l e (rmO 1 21) s m ([.ref h] : List Value).toArray below meth c A (QV G kk ([(h, .inr (2, rmF (sX2_changeTemperature r)))])) H locs (F0 m 34 ls []) := by
    intro x_1 ex_1 eS H locs ls hP hD hS hl
    refine lv_aload_n hx hb dX2_changeTemperature_34 rfl (lv_at hl 1 rfl) ?_
    refine r_get (v := .int (r 5)) hx hb hts hown hK hP fl_X2_27 0 rfl rfl dX2_changeTemperature_35 ?_
    have J_4 : ∀ (x_2 : Int32) (ex_2 : x_2 = (if (r 5) = 0 then x_1 else (x_1 + 4))) (eS : sX2_changeTemperature r = sX2_changeTemperature_j44 r x_1 x_2) (H : Heap) (locs : List Loc) (ls : Array Slot) (hP : va_P G vwCl ([(h, .inr (2, rmF r))]) H) (hD : va_D A ([(h, .inr (2, rmF r))])) (hS : va_S A s.heap H locs) (hl : lv_has ls 2 [(1, .int x_2), (0, .ref h)]), GO p l e (rmO 1 21) s m ([.ref h] : List Value).toArray below meth c A (QV G kk ([(h, .inr (2, rmF (sX2_changeTemperature r)))])) H locs (F0 m 44 ls []) := by
      intro x_2 ex_2 eS H locs ls hP hD hS hl
      refine lv_aload_n hx hb dX2_changeTemperature_44 rfl (lv_at hl 1 rfl) ?_
      refine lv_sipush (v := (-400)) hx hb dX2_changeTemperature_45 (by decide) ?_
      refine lv_sipush (v := 400) hx hb dX2_changeTemperature_48 (by decide) ?_
      refine lv_aload_n hx hb dX2_changeTemperature_51 rfl (lv_at hl 1 rfl) ?_
      refine r_get (v := .int (r 4)) hx hb hts hown hK hP fl_X2_24 0 rfl rfl dX2_changeTemperature_52 ?_
      refine lv_iload_n hx hb dX2_changeTemperature_55 rfl (lv_at hl 0 rfl) ?_
      refine lv_iadd hx hb dX2_changeTemperature_56 ?_
      refine r_mmin hx hb hts hml hl.1 hown ml_X2_50 jm_min (Nat.le_of_ble_eq_true rfl) (Nat.le_of_ble_eq_true rfl) (Nat.zero_le _) (Nat.zero_le _) dX2_changeTemperature_57 ?_
      refine r_mmax hx hb hts hml hl.1 hown ml_X2_56 jm_max (Nat.le_of_ble_eq_true rfl) (Nat.le_of_ble_eq_true rfl) (Nat.zero_le _) (Nat.zero_le _) dX2_changeTemperature_60 ?_
      refine r_put hx hb hts hown hK hP hD hS fl_X2_24 fw_2_4 0 rfl rfl rfl (Nat.le_of_ble_eq_true rfl) dX2_changeTemperature_63 (fun H locs hP hD hS => ?_)
      replace hP : va_P G vwCl ([(h, .inr (2, rmF (upd r 4 (if (-400) < (if ((r 4) + x_2) < 400 then ((r 4) + x_2) else 400) then (if ((r 4) + x_2) < 400 then ((r 4) + x_2) else 400) else (-400)))))]) H := hP
      replace hD : va_D A ([(h, .inr (2, rmF (upd r 4 (if (-400) < (if ((r 4) + x_2) < 400 then ((r 4) + x_2) else 400) then (if ((r 4) + x_2) < 400 then ((r 4) + x_2) else 400) else (-400)))))]) := hD
      exact fin_v hx hb hr hlocks hK (vP_eq (congrArg (fun z : (Nat → Int32) => ([(h, .inr (2, rmF z))] : va_W)) eS.symm) hP) (vD_eq (congrArg (fun z : (Nat → Int32) => ([(h, .inr (2, rmF z))] : va_W)) eS.symm) hD) hS dX2_changeTemperature_66
    refine lv_if_eq (tgt := 44) hx hb dX2_changeTemperature_38 (by decide) (fun c_38 => ?_) (fun c_38 => ?_)
    · exact J_4 x_1 (if_pos c_38).symm (eS.trans (cg1 (sX2_changeTemperature_j44 r x_1) (if_pos c_38))) _ _ ls hP hD hS (lv_sub hl [0, 1] rfl)
    · refine lv_iinc (v := (x_1 + 4)) (lv' := [(1, .int (x_1 + 4)), (0, .ref h)]) hx hb dX2_changeTemperature_41 hl (k := 0) rfl rfl (by decide) rfl (fun ls hl => ?_)
      exact J_4 (x_1 + 4) (if_neg c_38).symm (eS.trans (cg1 (sX2_changeTemperature_j44 r x_1) (if_neg c_38))) _ _ ls hP hD hS (lv_sub hl [0, 1] rfl)
  refine lv_if_eq (tgt := 15) hx hb dX2_changeTemperature_6 (by decide) (fun c_6 => ?_) (fun c_6 => ?_)
  · refine lv_aload_n hx hb dX2_changeTemperature_15 rfl (lv_at hl 1 rfl) ?_
    refine k_goI (k_runV (rest := []) (As := []) hx hb hml hown hts hK hP hD hS hA hE hl.1 (c_X2_isCooled l G kk h r ) vl_X2_47 rfl rfl rfl ⟨Nat.le_of_ble_eq_true rfl, Nat.le_of_ble_eq_true rfl, rfl, rfl⟩ [0] rfl rfl ⟨Nat.zero_le _, Nat.zero_le _⟩ rfl (Nat.le_of_ble_eq_true rfl) dX2_changeTemperature_16) hP hD hS hA [0] rfl ads1 (fun H locs hP hD hS => ?_)
    replace hP : va_P G vwCl ([(h, .inr (2, rmF r))]) H := hP
    replace hD : va_D A ([(h, .inr (2, rmF r))]) := hD
    refine lv_if_eq (tgt := 34) hx hb dX2_changeTemperature_19 (by decide) (fun c_19 => ?_) (fun c_19 => ?_)
    · exact J_3 1 ((if_pos c_6).trans (if_pos c_19)).symm (eS.trans (cg1 (sX2_changeTemperature_j34 r) ((if_pos c_6).trans (if_pos c_19)))) _ _ ls hP hD hS (lv_sub hl [0, 1] rfl)
    · refine lv_bipush (v := 8) hx hb dX2_changeTemperature_22 (by decide) ?_
      refine lv_aload_n hx hb dX2_changeTemperature_24 rfl (lv_at hl 1 rfl) ?_
      refine r_get (v := .int (r 6)) hx hb hts hown hK hP fl_X2_31 0 rfl rfl dX2_changeTemperature_25 ?_
      refine lv_bipush (v := 20) hx hb dX2_changeTemperature_28 (by decide) ?_
      refine lv_idiv hx hb dX2_changeTemperature_30 (by decide) ?_
      refine lv_isub hx hb dX2_changeTemperature_31 ?_
      refine lv_ineg hx hb dX2_changeTemperature_32 ?_
      refine lv_istore_n (lv' := [(1, .int (-(8 - ((r 6) / 20)))), (0, .ref h)]) hx hb dX2_changeTemperature_33 rfl hl (by decide) rfl (fun ls hl => ?_)
      exact J_3 (-(8 - ((r 6) / 20))) ((if_pos c_6).trans (if_neg c_19)).symm (eS.trans (cg1 (sX2_changeTemperature_j34 r) ((if_pos c_6).trans (if_neg c_19)))) _ _ ls hP hD hS (lv_sub hl [0, 1] rfl)
  · refine lv_bipush (v := 6) hx hb dX2_changeTemperature_9 (by decide) ?_
    refine lv_istore_n (lv' := [(1, .int 6), (0, .ref h)]) hx hb dX2_changeTemperature_11 rfl hl (by decide) rfl (fun ls hl => ?_)
    refine lv_goto (tgt := 34) hx hb dX2_changeTemperature_12 (by decide) ?_
    exact J_3 6 (if_neg c_6).symm (eS.trans (cg1 (sX2_changeTemperature_j34 r) (if_neg c_6))) _ _ ls hP hD hS (lv_sub hl [0, 1] rfl)
def sX2_changeFrost_j68 (r : Nat → Int32) (x_1 : Int32) (x_2 : Int32) : (Nat → Int32) :=
  (upd r 6 (if ((r 6) + (x_1 + x_2)) < 100 then ((r 6) + (x_1 + x_2)) else 100))
def sX2_changeFrost_j56 (r : Nat → Int32) (x_1 : Int32) : (Nat → Int32) :=
  (sX2_changeFrost_j68 r x_1 (if (r 5) = 0 then 0 else 2))
def sX2_changeFrost (r : Nat → Int32) : (Nat → Int32) :=
  (if (sX2_isHeated r) = 0 then (sX2_changeFrost_j56 r (if (sX2_isCooled r) = 0 then 0 else 1)) else (if (if 0 < ((r 6) - 10) then ((r 6) - 10) else 0) = 0 then (upd (upd r 6 (if 0 < ((r 6) - 10) then ((r 6) - 10) else 0)) 7 0) else (upd (upd r 6 (if 0 < ((r 6) - 10) then ((r 6) - 10) else 0)) 7 ((r 7) - 1))))
set_option maxRecDepth 100000 in
set_option maxHeartbeats 4000000 in
theorem c_X2_changeFrost (l : Launch) (G : va_G) (kk : Nat → ClassId) (h : Nat) (r : Nat → Int32)  : CC l yX2_changeFrost cX2_changeFrost 2 none (rmO 1 21) [.ref h] G kk ([(h, .inr (2, rmF r))]) (QV G kk ([(h, .inr (2, rmF (sX2_changeFrost r)))])) := by
  refine cc_start (by decide +kernel) (Nat.le_of_ble_eq_true rfl) ?_
  intro p e s m below meth c A ls hx hb hr hml hown hts hlocks hA hE hK hP hD hS hl
  have hown : s.vm.findClass RX2 = some m.cls := hown
  have hl : lv_has ls 2 [(0, .ref h)] := hl
  have eS : sX2_changeFrost r = sX2_changeFrost r := rfl
  refine lv_aload_n hx hb dX2_changeFrost_0 rfl (lv_at hl 0 rfl) ?_
  refine k_goI (k_runV (rest := []) (As := []) hx hb hml hown hts hK hP hD hS hA hE hl.1 (c_X2_isHeated l G kk h r ) vl_X2_43 rfl rfl rfl ⟨Nat.le_of_ble_eq_true rfl, Nat.le_of_ble_eq_true rfl, rfl, rfl⟩ [0] rfl rfl ⟨Nat.zero_le _, Nat.zero_le _⟩ rfl (Nat.le_of_ble_eq_true rfl) dX2_changeFrost_1) hP hD hS hA [0] rfl ads1 (fun H locs hP hD hS => ?_)
  replace hP : va_P G vwCl ([(h, .inr (2, rmF r))]) H := hP
  replace hD : va_D A ([(h, .inr (2, rmF r))]) := hD
  refine lv_if_eq (tgt := 44) hx hb dX2_changeFrost_4 (by decide) (fun c_4 => ?_) (fun c_4 => ?_)
  · have eS := eS.trans (if_pos c_4)
    refine lv_aload_n hx hb dX2_changeFrost_44 rfl (lv_at hl 0 rfl) ?_
    refine k_goI (k_runV (rest := []) (As := []) hx hb hml hown hts hK hP hD hS hA hE hl.1 (c_X2_isCooled l G kk h r ) vl_X2_47 rfl rfl rfl ⟨Nat.le_of_ble_eq_true rfl, Nat.le_of_ble_eq_true rfl, rfl, rfl⟩ [0] rfl rfl ⟨Nat.zero_le _, Nat.zero_le _⟩ rfl (Nat.le_of_ble_eq_true rfl) dX2_changeFrost_45) hP hD hS hA [0] rfl ads1 (fun H locs hP hD hS => ?_)
    replace hP : va_P G vwCl ([(h, .inr (2, rmF r))]) H := hP
    replace hD : va_D A ([(h, .inr (2, rmF r))]) := hD
    have J_3 : ∀ (x_1 : Int32) (ex_1 : x_1 = (if (sX2_isCooled r) = 0 then 0 else 1)) (eS : sX2_changeFrost r = sX2_changeFrost_j56 r x_1) (H : Heap) (locs : List Loc) (ls : Array Slot) (hP : va_P G vwCl ([(h, .inr (2, rmF r))]) H) (hD : va_D A ([(h, .inr (2, rmF r))])) (hS : va_S A s.heap H locs) (hl : lv_has ls 2 [(0, .ref h)]), GO p l e (rmO 1 21) s m ([.ref h] : List Value).toArray below meth c A (QV G kk ([(h, .inr (2, rmF (sX2_changeFrost r)))])) H locs (F0 m 56 ls [.int x_1]) := by
      intro x_1 ex_1 eS H locs ls hP hD hS hl
      refine lv_aload_n hx hb dX2_changeFrost_56 rfl (lv_at hl 0 rfl) ?_
      refine r_get (v := .int (r 5)) hx hb hts hown hK hP fl_X2_27 0 rfl rfl dX2_changeFrost_57 ?_
      have J_4 : ∀ (x_2 : Int32) (ex_2 : x_2 = (if (r 5) = 0 then 0 else 2)) (eS : sX2_changeFrost r = sX2_changeFrost_j68 r x_1 x_2) (H : Heap) (locs : List Loc) (ls : Array Slot) (hP : va_P G vwCl ([(h, .inr (2, rmF r))]) H) (hD : va_D A ([(h, .inr (2, rmF r))])) (hS : va_S A s.heap H locs) (hl : lv_has ls 2 [(0, .ref h)]), GO p l e (rmO 1 21) s m ([.ref h] : List Value).toArray below meth c A (QV G kk ([(h, .inr (2, rmF (sX2_changeFrost r)))])) H locs (F0 m 68 ls [.int x_2, .int x_1]) := by
        intro x_2 ex_2 eS H locs ls hP hD hS hl
        refine lv_iadd hx hb dX2_changeFrost_68 ?_
        refine lv_istore_n (lv' := [(1, .int (x_1 + x_2)), (0, .ref h)]) hx hb dX2_changeFrost_69 rfl hl (by decide) rfl (fun ls hl => ?_)
        refine lv_aload_n hx hb dX2_changeFrost_70 rfl (lv_at hl 1 rfl) ?_
        refine lv_bipush (v := 100) hx hb dX2_changeFrost_71 (by decide) ?_
        refine lv_aload_n hx hb dX2_changeFrost_73 rfl (lv_at hl 1 rfl) ?_
        refine r_get (v := .int (r 6)) hx hb hts hown hK hP fl_X2_31 0 rfl rfl dX2_changeFrost_74 ?_
        refine lv_iload_n hx hb dX2_changeFrost_77 rfl (lv_at hl 0 rfl) ?_
        refine lv_iadd hx hb dX2_changeFrost_78 ?_
        refine r_mmin hx hb hts hml hl.1 hown ml_X2_50 jm_min (Nat.le_of_ble_eq_true rfl) (Nat.le_of_ble_eq_true rfl) (Nat.zero_le _) (Nat.zero_le _) dX2_changeFrost_79 ?_
        refine r_put hx hb hts hown hK hP hD hS fl_X2_31 fw_2_6 0 rfl rfl rfl (Nat.le_of_ble_eq_true rfl) dX2_changeFrost_82 (fun H locs hP hD hS => ?_)
        replace hP : va_P G vwCl ([(h, .inr (2, rmF (upd r 6 (if ((r 6) + (x_1 + x_2)) < 100 then ((r 6) + (x_1 + x_2)) else 100))))]) H := hP
        replace hD : va_D A ([(h, .inr (2, rmF (upd r 6 (if ((r 6) + (x_1 + x_2)) < 100 then ((r 6) + (x_1 + x_2)) else 100))))]) := hD
        exact fin_v hx hb hr hlocks hK (vP_eq (congrArg (fun z : (Nat → Int32) => ([(h, .inr (2, rmF z))] : va_W)) eS.symm) hP) (vD_eq (congrArg (fun z : (Nat → Int32) => ([(h, .inr (2, rmF z))] : va_W)) eS.symm) hD) hS dX2_changeFrost_85
      refine lv_if_eq (tgt := 67) hx hb dX2_changeFrost_60 (by decide) (fun c_60 => ?_) (fun c_60 => ?_)
      · refine lv_iconst (v := 0) hx hb dX2_changeFrost_67 (by decide) ?_
        exact J_4 0 (if_pos c_60).symm (eS.trans (cg1 (sX2_changeFrost_j68 r x_1) (if_pos c_60))) _ _ ls hP hD hS (lv_sub hl [0] rfl)
      · refine lv_iconst (v := 2) hx hb dX2_changeFrost_63 (by decide) ?_
        refine lv_goto (tgt := 68) hx hb dX2_changeFrost_64 (by decide) ?_
        exact J_4 2 (if_neg c_60).symm (eS.trans (cg1 (sX2_changeFrost_j68 r x_1) (if_neg c_60))) _ _ ls hP hD hS (lv_sub hl [0] rfl)
    refine lv_if_eq (tgt := 55) hx hb dX2_changeFrost_48 (by decide) (fun c_48 => ?_) (fun c_48 => ?_)
    · refine lv_iconst (v := 0) hx hb dX2_changeFrost_55 (by decide) ?_
      exact J_3 0 (if_pos c_48).symm (eS.trans (cg1 (sX2_changeFrost_j56 r) (if_pos c_48))) _ _ ls hP hD hS (lv_sub hl [0] rfl)
    · refine lv_iconst (v := 1) hx hb dX2_changeFrost_51 (by decide) ?_
      refine lv_goto (tgt := 56) hx hb dX2_changeFrost_52 (by decide) ?_
      exact J_3 1 (if_neg c_48).symm (eS.trans (cg1 (sX2_changeFrost_j56 r) (if_neg c_48))) _ _ ls hP hD hS (lv_sub hl [0] rfl)
  · have eS := eS.trans (if_neg c_4)
    refine lv_aload_n hx hb dX2_changeFrost_7 rfl (lv_at hl 0 rfl) ?_
    refine lv_iconst (v := 0) hx hb dX2_changeFrost_8 (by decide) ?_
    refine lv_aload_n hx hb dX2_changeFrost_9 rfl (lv_at hl 0 rfl) ?_
    refine r_get (v := .int (r 6)) hx hb hts hown hK hP fl_X2_31 0 rfl rfl dX2_changeFrost_10 ?_
    refine lv_bipush (v := 10) hx hb dX2_changeFrost_13 (by decide) ?_
    refine lv_isub hx hb dX2_changeFrost_15 ?_
    refine r_mmax hx hb hts hml hl.1 hown ml_X2_56 jm_max (Nat.le_of_ble_eq_true rfl) (Nat.le_of_ble_eq_true rfl) (Nat.zero_le _) (Nat.zero_le _) dX2_changeFrost_16 ?_
    refine r_put hx hb hts hown hK hP hD hS fl_X2_31 fw_2_6 0 rfl rfl rfl (Nat.le_of_ble_eq_true rfl) dX2_changeFrost_19 (fun H locs hP hD hS => ?_)
    replace hP : va_P G vwCl ([(h, .inr (2, rmF (upd r 6 (if 0 < ((r 6) - 10) then ((r 6) - 10) else 0))))]) H := hP
    replace hD : va_D A ([(h, .inr (2, rmF (upd r 6 (if 0 < ((r 6) - 10) then ((r 6) - 10) else 0))))]) := hD
    refine lv_aload_n hx hb dX2_changeFrost_22 rfl (lv_at hl 0 rfl) ?_
    refine lv_aload_n hx hb dX2_changeFrost_23 rfl (lv_at hl 0 rfl) ?_
    refine r_get (v := .int (if 0 < ((r 6) - 10) then ((r 6) - 10) else 0)) hx hb hts hown hK hP fl_X2_31 0 rfl rfl dX2_changeFrost_24 ?_
    refine lv_if_ne (tgt := 34) hx hb dX2_changeFrost_27 (by decide) (fun c_27 => ?_) (fun c_27 => ?_)
    · have eS := eS.trans (if_neg c_27)
      refine lv_aload_n hx hb dX2_changeFrost_34 rfl (lv_at hl 0 rfl) ?_
      refine r_get (v := .int (r 7)) hx hb hts hown hK hP fl_X2_34 0 rfl rfl dX2_changeFrost_35 ?_
      refine lv_iconst (v := 1) hx hb dX2_changeFrost_38 (by decide) ?_
      refine lv_isub hx hb dX2_changeFrost_39 ?_
      refine r_put hx hb hts hown hK hP hD hS fl_X2_34 fw_2_7 0 rfl rfl rfl (Nat.le_of_ble_eq_true rfl) dX2_changeFrost_40 (fun H locs hP hD hS => ?_)
      replace hP : va_P G vwCl ([(h, .inr (2, rmF (upd (upd r 6 (if 0 < ((r 6) - 10) then ((r 6) - 10) else 0)) 7 ((r 7) - 1))))]) H := hP
      replace hD : va_D A ([(h, .inr (2, rmF (upd (upd r 6 (if 0 < ((r 6) - 10) then ((r 6) - 10) else 0)) 7 ((r 7) - 1))))]) := hD
      exact fin_v hx hb hr hlocks hK (vP_eq (congrArg (fun z : (Nat → Int32) => ([(h, .inr (2, rmF z))] : va_W)) eS.symm) hP) (vD_eq (congrArg (fun z : (Nat → Int32) => ([(h, .inr (2, rmF z))] : va_W)) eS.symm) hD) hS dX2_changeFrost_43
    · have eS := eS.trans (if_pos c_27)
      refine lv_iconst (v := 0) hx hb dX2_changeFrost_30 (by decide) ?_
      refine lv_goto (tgt := 40) hx hb dX2_changeFrost_31 (by decide) ?_
      refine r_put hx hb hts hown hK hP hD hS fl_X2_34 fw_2_7 0 rfl rfl rfl (Nat.le_of_ble_eq_true rfl) dX2_changeFrost_40 (fun H locs hP hD hS => ?_)
      replace hP : va_P G vwCl ([(h, .inr (2, rmF (upd (upd r 6 (if 0 < ((r 6) - 10) then ((r 6) - 10) else 0)) 7 0)))]) H := hP
      replace hD : va_D A ([(h, .inr (2, rmF (upd (upd r 6 (if 0 < ((r 6) - 10) then ((r 6) - 10) else 0)) 7 0)))]) := hD
      exact fin_v hx hb hr hlocks hK (vP_eq (congrArg (fun z : (Nat → Int32) => ([(h, .inr (2, rmF z))] : va_W)) eS.symm) hP) (vD_eq (congrArg (fun z : (Nat → Int32) => ([(h, .inr (2, rmF z))] : va_W)) eS.symm) hD) hS dX2_changeFrost_43
def sX2_property (r : Nat → Int32) (w : Int32) : Int32 :=
  (if w = 0 then (r 1) else (if w = 1 then (r 2) else (if w = 2 then (r 3) else (if w = 3 then (r 4) else (if w = 4 then (if (r 5) = 0 then 0 else 1) else (if w = 5 then (r 6) else (if w = 6 then (r 7) else (r 8))))))))
set_option maxRecDepth 100000 in
set_option maxHeartbeats 4000000 in
theorem c_X2_property (l : Launch) (G : va_G) (kk : Nat → ClassId) (h : Nat) (r : Nat → Int32) (w : Int32)  : CC l yX2_property cX2_property 2 (some .int) (rmO 0 0) [.ref h, .int w] G kk ([(h, .inr (2, rmF r))]) (QI G kk ([(h, .inr (2, rmF r))]) (sX2_property r w)) := by
  refine cc_start (by decide +kernel) (Nat.le_of_ble_eq_true rfl) ?_
  intro p e s m below meth c A ls hx hb hr hml hown hts hlocks hA hE hK hP hD hS hl
  have hown : s.vm.findClass RX2 = some m.cls := hown
  have hl : lv_has ls 2 [(0, .ref h), (1, .int w)] := hl
  have eS : sX2_property r w = sX2_property r w := rfl
  refine lv_iload_n hx hb dX2_property_0 rfl (lv_at hl 1 rfl) ?_
  refine (Decidable.em (w = 0)).elim (fun c_1_0 => ?_) (fun c_1_0 => ?_)
  · have eS := eS.trans (if_pos c_1_0)
    refine lv_tableIn (tgt := 44) hx hb dX2_property_1 (by rw [c_1_0]; decide) (by rw [c_1_0]; decide) (by rw [c_1_0]; rfl) (by decide) ?_
    refine lv_aload_n hx hb dX2_property_44 rfl (lv_at hl 0 rfl) ?_
    refine r_get (v := .int (r 1)) hx hb hts hown hK hP fl_X2_15 0 rfl rfl dX2_property_45 ?_
    exact fin_i hx hb hr hlocks hK hP hD hS eS dX2_property_48
  have eS := eS.trans (if_neg c_1_0)
  refine (Decidable.em (w = 1)).elim (fun c_1_1 => ?_) (fun c_1_1 => ?_)
  · have eS := eS.trans (if_pos c_1_1)
    refine lv_tableIn (tgt := 49) hx hb dX2_property_1 (by rw [c_1_1]; decide) (by rw [c_1_1]; decide) (by rw [c_1_1]; rfl) (by decide) ?_
    refine lv_aload_n hx hb dX2_property_49 rfl (lv_at hl 0 rfl) ?_
    refine r_get (v := .int (r 2)) hx hb hts hown hK hP fl_X2_18 0 rfl rfl dX2_property_50 ?_
    exact fin_i hx hb hr hlocks hK hP hD hS eS dX2_property_53
  have eS := eS.trans (if_neg c_1_1)
  refine (Decidable.em (w = 2)).elim (fun c_1_2 => ?_) (fun c_1_2 => ?_)
  · have eS := eS.trans (if_pos c_1_2)
    refine lv_tableIn (tgt := 54) hx hb dX2_property_1 (by rw [c_1_2]; decide) (by rw [c_1_2]; decide) (by rw [c_1_2]; rfl) (by decide) ?_
    refine lv_aload_n hx hb dX2_property_54 rfl (lv_at hl 0 rfl) ?_
    refine r_get (v := .int (r 3)) hx hb hts hown hK hP fl_X2_21 0 rfl rfl dX2_property_55 ?_
    exact fin_i hx hb hr hlocks hK hP hD hS eS dX2_property_58
  have eS := eS.trans (if_neg c_1_2)
  refine (Decidable.em (w = 3)).elim (fun c_1_3 => ?_) (fun c_1_3 => ?_)
  · have eS := eS.trans (if_pos c_1_3)
    refine lv_tableIn (tgt := 59) hx hb dX2_property_1 (by rw [c_1_3]; decide) (by rw [c_1_3]; decide) (by rw [c_1_3]; rfl) (by decide) ?_
    refine lv_aload_n hx hb dX2_property_59 rfl (lv_at hl 0 rfl) ?_
    refine r_get (v := .int (r 4)) hx hb hts hown hK hP fl_X2_24 0 rfl rfl dX2_property_60 ?_
    exact fin_i hx hb hr hlocks hK hP hD hS eS dX2_property_63
  have eS := eS.trans (if_neg c_1_3)
  refine (Decidable.em (w = 4)).elim (fun c_1_4 => ?_) (fun c_1_4 => ?_)
  · have eS := eS.trans (if_pos c_1_4)
    refine lv_tableIn (tgt := 64) hx hb dX2_property_1 (by rw [c_1_4]; decide) (by rw [c_1_4]; decide) (by rw [c_1_4]; rfl) (by decide) ?_
    refine lv_aload_n hx hb dX2_property_64 rfl (lv_at hl 0 rfl) ?_
    refine r_get (v := .int (r 5)) hx hb hts hown hK hP fl_X2_27 0 rfl rfl dX2_property_65 ?_
    refine lv_if_eq (tgt := 75) hx hb dX2_property_68 (by decide) (fun c_68 => ?_) (fun c_68 => ?_)
    · have eS := eS.trans (if_pos c_68)
      refine lv_iconst (v := 0) hx hb dX2_property_75 (by decide) ?_
      exact fin_i hx hb hr hlocks hK hP hD hS eS dX2_property_76
    · have eS := eS.trans (if_neg c_68)
      refine lv_iconst (v := 1) hx hb dX2_property_71 (by decide) ?_
      refine lv_goto (tgt := 76) hx hb dX2_property_72 (by decide) ?_
      exact fin_i hx hb hr hlocks hK hP hD hS eS dX2_property_76
  have eS := eS.trans (if_neg c_1_4)
  refine (Decidable.em (w = 5)).elim (fun c_1_5 => ?_) (fun c_1_5 => ?_)
  · have eS := eS.trans (if_pos c_1_5)
    refine lv_tableIn (tgt := 77) hx hb dX2_property_1 (by rw [c_1_5]; decide) (by rw [c_1_5]; decide) (by rw [c_1_5]; rfl) (by decide) ?_
    refine lv_aload_n hx hb dX2_property_77 rfl (lv_at hl 0 rfl) ?_
    refine r_get (v := .int (r 6)) hx hb hts hown hK hP fl_X2_31 0 rfl rfl dX2_property_78 ?_
    exact fin_i hx hb hr hlocks hK hP hD hS eS dX2_property_81
  have eS := eS.trans (if_neg c_1_5)
  refine (Decidable.em (w = 6)).elim (fun c_1_6 => ?_) (fun c_1_6 => ?_)
  · have eS := eS.trans (if_pos c_1_6)
    refine lv_tableIn (tgt := 82) hx hb dX2_property_1 (by rw [c_1_6]; decide) (by rw [c_1_6]; decide) (by rw [c_1_6]; rfl) (by decide) ?_
    refine lv_aload_n hx hb dX2_property_82 rfl (lv_at hl 0 rfl) ?_
    refine r_get (v := .int (r 7)) hx hb hts hown hK hP fl_X2_34 0 rfl rfl dX2_property_83 ?_
    exact fin_i hx hb hr hlocks hK hP hD hS eS dX2_property_86
  have eS := eS.trans (if_neg c_1_6)
  refine lv_tableOut (tgt := 87) hx hb dX2_property_1 (by have t0 := lv_neT (a := 0) c_1_0 (by decide); have t1 := lv_neT (a := 1) c_1_1 (by decide); have t2 := lv_neT (a := 2) c_1_2 (by decide); have t3 := lv_neT (a := 3) c_1_3 (by decide); have t4 := lv_neT (a := 4) c_1_4 (by decide); have t5 := lv_neT (a := 5) c_1_5 (by decide); have t6 := lv_neT (a := 6) c_1_6 (by decide); omega) (by decide) ?_
  refine lv_aload_n hx hb dX2_property_87 rfl (lv_at hl 0 rfl) ?_
  refine r_get (v := .int (r 8)) hx hb hts hown hK hP fl_X2_37 0 rfl rfl dX2_property_88 ?_
  exact fin_i hx hb hr hlocks hK hP hD hS eS dX2_property_91
def sX2_fill (r : Nat → Int32) (x : Int32) (y : Int32) (z : Int32) : (Nat → Int32) :=
  (upd (upd (upd (upd (upd (upd (upd (upd r 1 x) 2 y) 3 z) 4 y) 5 0) 6 0) 7 0) 8 0)
set_option maxRecDepth 100000 in
set_option maxHeartbeats 4000000 in
theorem c_X2_fill (l : Launch) (G : va_G) (kk : Nat → ClassId) (h : Nat) (r : Nat → Int32) (x : Int32) (y : Int32) (z : Int32)  : CC l yX2_fill cX2_fill 4 none (rmO 0 0) [.ref h, .int x, .int y, .int z] G kk ([(h, .inr (2, rmF r))]) (QV G kk ([(h, .inr (2, rmF (sX2_fill r x y z)))])) := by
  refine cc_start (by decide +kernel) (Nat.le_of_ble_eq_true rfl) ?_
  intro p e s m below meth c A ls hx hb hr hml hown hts hlocks hA hE hK hP hD hS hl
  have hown : s.vm.findClass RX2 = some m.cls := hown
  have hl : lv_has ls 4 [(0, .ref h), (1, .int x), (2, .int y), (3, .int z)] := hl
  have eS : sX2_fill r x y z = sX2_fill r x y z := rfl
  refine lv_aload_n hx hb dX2_fill_0 rfl (lv_at hl 0 rfl) ?_
  refine lv_iload_n hx hb dX2_fill_1 rfl (lv_at hl 1 rfl) ?_
  refine r_put hx hb hts hown hK hP hD hS fl_X2_15 fw_2_1 0 rfl rfl rfl (Nat.le_of_ble_eq_true rfl) dX2_fill_2 (fun H locs hP hD hS => ?_)
  replace hP : va_P G vwCl ([(h, .inr (2, rmF (upd r 1 x)))]) H := hP
  replace hD : va_D A ([(h, .inr (2, rmF (upd r 1 x)))]) := hD
  refine lv_aload_n hx hb dX2_fill_5 rfl (lv_at hl 0 rfl) ?_
  refine lv_iload_n hx hb dX2_fill_6 rfl (lv_at hl 2 rfl) ?_
  refine r_put hx hb hts hown hK hP hD hS fl_X2_18 fw_2_2 0 rfl rfl rfl (Nat.le_of_ble_eq_true rfl) dX2_fill_7 (fun H locs hP hD hS => ?_)
  replace hP : va_P G vwCl ([(h, .inr (2, rmF (upd (upd r 1 x) 2 y)))]) H := hP
  replace hD : va_D A ([(h, .inr (2, rmF (upd (upd r 1 x) 2 y)))]) := hD
  refine lv_aload_n hx hb dX2_fill_10 rfl (lv_at hl 0 rfl) ?_
  refine lv_iload_n hx hb dX2_fill_11 rfl (lv_at hl 3 rfl) ?_
  refine r_put hx hb hts hown hK hP hD hS fl_X2_21 fw_2_3 0 rfl rfl rfl (Nat.le_of_ble_eq_true rfl) dX2_fill_12 (fun H locs hP hD hS => ?_)
  replace hP : va_P G vwCl ([(h, .inr (2, rmF (upd (upd (upd r 1 x) 2 y) 3 z)))]) H := hP
  replace hD : va_D A ([(h, .inr (2, rmF (upd (upd (upd r 1 x) 2 y) 3 z)))]) := hD
  refine lv_aload_n hx hb dX2_fill_15 rfl (lv_at hl 0 rfl) ?_
  refine lv_iload_n hx hb dX2_fill_16 rfl (lv_at hl 2 rfl) ?_
  refine r_put hx hb hts hown hK hP hD hS fl_X2_24 fw_2_4 0 rfl rfl rfl (Nat.le_of_ble_eq_true rfl) dX2_fill_17 (fun H locs hP hD hS => ?_)
  replace hP : va_P G vwCl ([(h, .inr (2, rmF (upd (upd (upd (upd r 1 x) 2 y) 3 z) 4 y)))]) H := hP
  replace hD : va_D A ([(h, .inr (2, rmF (upd (upd (upd (upd r 1 x) 2 y) 3 z) 4 y)))]) := hD
  refine lv_aload_n hx hb dX2_fill_20 rfl (lv_at hl 0 rfl) ?_
  refine lv_iconst (v := 0) hx hb dX2_fill_21 (by decide) ?_
  refine r_put hx hb hts hown hK hP hD hS fl_X2_27 fw_2_5 0 rfl rfl rfl (Nat.le_of_ble_eq_true rfl) dX2_fill_22 (fun H locs hP hD hS => ?_)
  replace hP : va_P G vwCl ([(h, .inr (2, rmF (upd (upd (upd (upd (upd r 1 x) 2 y) 3 z) 4 y) 5 0)))]) H := hP
  replace hD : va_D A ([(h, .inr (2, rmF (upd (upd (upd (upd (upd r 1 x) 2 y) 3 z) 4 y) 5 0)))]) := hD
  refine lv_aload_n hx hb dX2_fill_25 rfl (lv_at hl 0 rfl) ?_
  refine lv_iconst (v := 0) hx hb dX2_fill_26 (by decide) ?_
  refine r_put hx hb hts hown hK hP hD hS fl_X2_31 fw_2_6 0 rfl rfl rfl (Nat.le_of_ble_eq_true rfl) dX2_fill_27 (fun H locs hP hD hS => ?_)
  replace hP : va_P G vwCl ([(h, .inr (2, rmF (upd (upd (upd (upd (upd (upd r 1 x) 2 y) 3 z) 4 y) 5 0) 6 0)))]) H := hP
  replace hD : va_D A ([(h, .inr (2, rmF (upd (upd (upd (upd (upd (upd r 1 x) 2 y) 3 z) 4 y) 5 0) 6 0)))]) := hD
  refine lv_aload_n hx hb dX2_fill_30 rfl (lv_at hl 0 rfl) ?_
  refine lv_iconst (v := 0) hx hb dX2_fill_31 (by decide) ?_
  refine r_put hx hb hts hown hK hP hD hS fl_X2_34 fw_2_7 0 rfl rfl rfl (Nat.le_of_ble_eq_true rfl) dX2_fill_32 (fun H locs hP hD hS => ?_)
  replace hP : va_P G vwCl ([(h, .inr (2, rmF (upd (upd (upd (upd (upd (upd (upd r 1 x) 2 y) 3 z) 4 y) 5 0) 6 0) 7 0)))]) H := hP
  replace hD : va_D A ([(h, .inr (2, rmF (upd (upd (upd (upd (upd (upd (upd r 1 x) 2 y) 3 z) 4 y) 5 0) 6 0) 7 0)))]) := hD
  refine lv_aload_n hx hb dX2_fill_35 rfl (lv_at hl 0 rfl) ?_
  refine lv_iconst (v := 0) hx hb dX2_fill_36 (by decide) ?_
  refine r_put hx hb hts hown hK hP hD hS fl_X2_37 fw_2_8 0 rfl rfl rfl (Nat.le_of_ble_eq_true rfl) dX2_fill_37 (fun H locs hP hD hS => ?_)
  replace hP : va_P G vwCl ([(h, .inr (2, rmF (upd (upd (upd (upd (upd (upd (upd (upd r 1 x) 2 y) 3 z) 4 y) 5 0) 6 0) 7 0) 8 0)))]) H := hP
  replace hD : va_D A ([(h, .inr (2, rmF (upd (upd (upd (upd (upd (upd (upd (upd r 1 x) 2 y) 3 z) 4 y) 5 0) 6 0) 7 0) 8 0)))]) := hD
  exact fin_v hx hb hr hlocks hK (vP_eq (congrArg (fun z : (Nat → Int32) => ([(h, .inr (2, rmF z))] : va_W)) eS.symm) hP) (vD_eq (congrArg (fun z : (Nat → Int32) => ([(h, .inr (2, rmF z))] : va_W)) eS.symm) hD) hS dX2_fill_40
def sX2_copyFrom (r : Nat → Int32) (r2 : Nat → Int32) : (Nat → Int32) :=
  (upd (upd (upd (upd (upd (upd (upd (upd r 1 (r2 1)) 2 (r2 2)) 3 (r2 3)) 4 (r2 4)) 5 (r2 5)) 6 (r2 6)) 7 (r2 7)) 8 (r2 8))
set_option maxRecDepth 100000 in
set_option maxHeartbeats 4000000 in
theorem c_X2_copyFrom (l : Launch) (G : va_G) (kk : Nat → ClassId) (h : Nat) (r : Nat → Int32) (h2 : Nat) (r2 : Nat → Int32) (hz : zb (r2 5)) : CC l yX2_copyFrom cX2_copyFrom 2 none (rmO 0 0) [.ref h, .ref h2] G kk ([(h, .inr (2, rmF r)), (h2, .inr (2, rmF r2))]) (QV G kk ([(h, .inr (2, rmF (sX2_copyFrom r r2))), (h2, .inr (2, rmF r2))])) := by
  refine cc_start (by decide +kernel) (Nat.le_of_ble_eq_true rfl) ?_
  intro p e s m below meth c A ls hx hb hr hml hown hts hlocks hA hE hK hP hD hS hl
  have hown : s.vm.findClass RX2 = some m.cls := hown
  have hl : lv_has ls 2 [(0, .ref h), (1, .ref h2)] := hl
  have eS : sX2_copyFrom r r2 = sX2_copyFrom r r2 := rfl
  refine lv_aload_n hx hb dX2_copyFrom_0 rfl (lv_at hl 0 rfl) ?_
  refine lv_aload_n hx hb dX2_copyFrom_1 rfl (lv_at hl 1 rfl) ?_
  refine r_get (v := .int (r2 1)) hx hb hts hown hK hP fl_X2_15 1 rfl rfl dX2_copyFrom_2 ?_
  refine r_put hx hb hts hown hK hP hD hS fl_X2_15 fw_2_1 0 rfl rfl rfl (Nat.le_of_ble_eq_true rfl) dX2_copyFrom_5 (fun H locs hP hD hS => ?_)
  replace hP : va_P G vwCl ([(h, .inr (2, rmF (upd r 1 (r2 1)))), (h2, .inr (2, rmF r2))]) H := hP
  replace hD : va_D A ([(h, .inr (2, rmF (upd r 1 (r2 1)))), (h2, .inr (2, rmF r2))]) := hD
  refine lv_aload_n hx hb dX2_copyFrom_8 rfl (lv_at hl 0 rfl) ?_
  refine lv_aload_n hx hb dX2_copyFrom_9 rfl (lv_at hl 1 rfl) ?_
  refine r_get (v := .int (r2 2)) hx hb hts hown hK hP fl_X2_18 1 rfl rfl dX2_copyFrom_10 ?_
  refine r_put hx hb hts hown hK hP hD hS fl_X2_18 fw_2_2 0 rfl rfl rfl (Nat.le_of_ble_eq_true rfl) dX2_copyFrom_13 (fun H locs hP hD hS => ?_)
  replace hP : va_P G vwCl ([(h, .inr (2, rmF (upd (upd r 1 (r2 1)) 2 (r2 2)))), (h2, .inr (2, rmF r2))]) H := hP
  replace hD : va_D A ([(h, .inr (2, rmF (upd (upd r 1 (r2 1)) 2 (r2 2)))), (h2, .inr (2, rmF r2))]) := hD
  refine lv_aload_n hx hb dX2_copyFrom_16 rfl (lv_at hl 0 rfl) ?_
  refine lv_aload_n hx hb dX2_copyFrom_17 rfl (lv_at hl 1 rfl) ?_
  refine r_get (v := .int (r2 3)) hx hb hts hown hK hP fl_X2_21 1 rfl rfl dX2_copyFrom_18 ?_
  refine r_put hx hb hts hown hK hP hD hS fl_X2_21 fw_2_3 0 rfl rfl rfl (Nat.le_of_ble_eq_true rfl) dX2_copyFrom_21 (fun H locs hP hD hS => ?_)
  replace hP : va_P G vwCl ([(h, .inr (2, rmF (upd (upd (upd r 1 (r2 1)) 2 (r2 2)) 3 (r2 3)))), (h2, .inr (2, rmF r2))]) H := hP
  replace hD : va_D A ([(h, .inr (2, rmF (upd (upd (upd r 1 (r2 1)) 2 (r2 2)) 3 (r2 3)))), (h2, .inr (2, rmF r2))]) := hD
  refine lv_aload_n hx hb dX2_copyFrom_24 rfl (lv_at hl 0 rfl) ?_
  refine lv_aload_n hx hb dX2_copyFrom_25 rfl (lv_at hl 1 rfl) ?_
  refine r_get (v := .int (r2 4)) hx hb hts hown hK hP fl_X2_24 1 rfl rfl dX2_copyFrom_26 ?_
  refine r_put hx hb hts hown hK hP hD hS fl_X2_24 fw_2_4 0 rfl rfl rfl (Nat.le_of_ble_eq_true rfl) dX2_copyFrom_29 (fun H locs hP hD hS => ?_)
  replace hP : va_P G vwCl ([(h, .inr (2, rmF (upd (upd (upd (upd r 1 (r2 1)) 2 (r2 2)) 3 (r2 3)) 4 (r2 4)))), (h2, .inr (2, rmF r2))]) H := hP
  replace hD : va_D A ([(h, .inr (2, rmF (upd (upd (upd (upd r 1 (r2 1)) 2 (r2 2)) 3 (r2 3)) 4 (r2 4)))), (h2, .inr (2, rmF r2))]) := hD
  refine lv_aload_n hx hb dX2_copyFrom_32 rfl (lv_at hl 0 rfl) ?_
  refine lv_aload_n hx hb dX2_copyFrom_33 rfl (lv_at hl 1 rfl) ?_
  refine r_get (v := .int (r2 5)) hx hb hts hown hK hP fl_X2_27 1 rfl rfl dX2_copyFrom_34 ?_
  refine r_put hx hb hts hown hK hP hD hS fl_X2_27 fw_2_5 0 rfl (zb_n hz) (zb_f hz) (Nat.le_of_ble_eq_true rfl) dX2_copyFrom_37 (fun H locs hP hD hS => ?_)
  replace hP : va_P G vwCl ([(h, .inr (2, rmF (upd (upd (upd (upd (upd r 1 (r2 1)) 2 (r2 2)) 3 (r2 3)) 4 (r2 4)) 5 (r2 5)))), (h2, .inr (2, rmF r2))]) H := hP
  replace hD : va_D A ([(h, .inr (2, rmF (upd (upd (upd (upd (upd r 1 (r2 1)) 2 (r2 2)) 3 (r2 3)) 4 (r2 4)) 5 (r2 5)))), (h2, .inr (2, rmF r2))]) := hD
  refine lv_aload_n hx hb dX2_copyFrom_40 rfl (lv_at hl 0 rfl) ?_
  refine lv_aload_n hx hb dX2_copyFrom_41 rfl (lv_at hl 1 rfl) ?_
  refine r_get (v := .int (r2 6)) hx hb hts hown hK hP fl_X2_31 1 rfl rfl dX2_copyFrom_42 ?_
  refine r_put hx hb hts hown hK hP hD hS fl_X2_31 fw_2_6 0 rfl rfl rfl (Nat.le_of_ble_eq_true rfl) dX2_copyFrom_45 (fun H locs hP hD hS => ?_)
  replace hP : va_P G vwCl ([(h, .inr (2, rmF (upd (upd (upd (upd (upd (upd r 1 (r2 1)) 2 (r2 2)) 3 (r2 3)) 4 (r2 4)) 5 (r2 5)) 6 (r2 6)))), (h2, .inr (2, rmF r2))]) H := hP
  replace hD : va_D A ([(h, .inr (2, rmF (upd (upd (upd (upd (upd (upd r 1 (r2 1)) 2 (r2 2)) 3 (r2 3)) 4 (r2 4)) 5 (r2 5)) 6 (r2 6)))), (h2, .inr (2, rmF r2))]) := hD
  refine lv_aload_n hx hb dX2_copyFrom_48 rfl (lv_at hl 0 rfl) ?_
  refine lv_aload_n hx hb dX2_copyFrom_49 rfl (lv_at hl 1 rfl) ?_
  refine r_get (v := .int (r2 7)) hx hb hts hown hK hP fl_X2_34 1 rfl rfl dX2_copyFrom_50 ?_
  refine r_put hx hb hts hown hK hP hD hS fl_X2_34 fw_2_7 0 rfl rfl rfl (Nat.le_of_ble_eq_true rfl) dX2_copyFrom_53 (fun H locs hP hD hS => ?_)
  replace hP : va_P G vwCl ([(h, .inr (2, rmF (upd (upd (upd (upd (upd (upd (upd r 1 (r2 1)) 2 (r2 2)) 3 (r2 3)) 4 (r2 4)) 5 (r2 5)) 6 (r2 6)) 7 (r2 7)))), (h2, .inr (2, rmF r2))]) H := hP
  replace hD : va_D A ([(h, .inr (2, rmF (upd (upd (upd (upd (upd (upd (upd r 1 (r2 1)) 2 (r2 2)) 3 (r2 3)) 4 (r2 4)) 5 (r2 5)) 6 (r2 6)) 7 (r2 7)))), (h2, .inr (2, rmF r2))]) := hD
  refine lv_aload_n hx hb dX2_copyFrom_56 rfl (lv_at hl 0 rfl) ?_
  refine lv_aload_n hx hb dX2_copyFrom_57 rfl (lv_at hl 1 rfl) ?_
  refine r_get (v := .int (r2 8)) hx hb hts hown hK hP fl_X2_37 1 rfl rfl dX2_copyFrom_58 ?_
  refine r_put hx hb hts hown hK hP hD hS fl_X2_37 fw_2_8 0 rfl rfl rfl (Nat.le_of_ble_eq_true rfl) dX2_copyFrom_61 (fun H locs hP hD hS => ?_)
  replace hP : va_P G vwCl ([(h, .inr (2, rmF (upd (upd (upd (upd (upd (upd (upd (upd r 1 (r2 1)) 2 (r2 2)) 3 (r2 3)) 4 (r2 4)) 5 (r2 5)) 6 (r2 6)) 7 (r2 7)) 8 (r2 8)))), (h2, .inr (2, rmF r2))]) H := hP
  replace hD : va_D A ([(h, .inr (2, rmF (upd (upd (upd (upd (upd (upd (upd (upd r 1 (r2 1)) 2 (r2 2)) 3 (r2 3)) 4 (r2 4)) 5 (r2 5)) 6 (r2 6)) 7 (r2 7)) 8 (r2 8)))), (h2, .inr (2, rmF r2))]) := hD
  exact fin_v hx hb hr hlocks hK (vP_eq (congrArg (fun z : (Nat → Int32) => ([(h, .inr (2, rmF z)), (h2, .inr (2, rmF r2))] : va_W)) eS.symm) hP) (vD_eq (congrArg (fun z : (Nat → Int32) => ([(h, .inr (2, rmF z)), (h2, .inr (2, rmF r2))] : va_W)) eS.symm) hD) hS dX2_copyFrom_64
