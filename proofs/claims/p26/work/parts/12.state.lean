theorem ne1 {x : Int32} (h : 1 ≤ x) : ¬ x = 0 := by
  rintro rfl
  exact absurd h (by decide)
theorem nlt_le {i : Int32} {n : Nat} (h : i < nI n) : ¬ nI n ≤ i := Int32.not_le.mpr h
def sX5_minutesLeft (g : Nat → Int32) (u : Nat → Int32) : Int32 :=
  (15 - (((g 1) + (u 1)) - ((g 1) + (u 1)) / 15 * 15))
set_option maxRecDepth 100000 in
set_option maxHeartbeats 4000000 in
theorem c_X5_minutesLeft (l : Launch) (G : va_G) (kk : Nat → ClassId) (h : Nat) (x : Nat) (y : Nat) (g : Nat → Int32) (u : Nat → Int32)  : CC l yX5_minutesLeft cX5_minutesLeft 1 (some .int) (rmO 0 0) [.ref h] G kk ([(h, .inr (5, sgF x y g)), (x, .inr (3, seF u))]) (QI G kk ([(h, .inr (5, sgF x y g)), (x, .inr (3, seF u))]) (sX5_minutesLeft g u)) := by
  refine cc_start (by decide +kernel) (Nat.le_of_ble_eq_true rfl) ?_
  intro p e s m below meth c A ls hx hb hr hml hown hts hlocks hA hE hK hP hD hS hl
  have hown : s.vm.findClass RX5 = some m.cls := hown
  have hl : lv_has ls 1 [(0, .ref h)] := hl
  have eS : sX5_minutesLeft g u = sX5_minutesLeft g u := rfl
  refine lv_bipush (v := 15) hx hb dX5_minutesLeft_0 (by decide) ?_
  refine lv_aload_n hx hb dX5_minutesLeft_2 rfl (lv_at hl 0 rfl) ?_
  refine r_get (v := .int (g 1)) hx hb hts hown hK hP fl_X5_34 0 rfl rfl dX5_minutesLeft_3 ?_
  refine lv_aload_n hx hb dX5_minutesLeft_6 rfl (lv_at hl 0 rfl) ?_
  refine r_get (v := .ref x) hx hb hts hown hK hP fl_X5_12 0 rfl rfl dX5_minutesLeft_7 ?_
  refine r_getN (v := .int (u 1)) hE hx hb hts hown hK hP fn_X5_168 1 rfl rfl dX5_minutesLeft_10 ?_
  refine lv_iadd hx hb dX5_minutesLeft_13 ?_
  refine lv_bipush (v := 15) hx hb dX5_minutesLeft_14 (by decide) ?_
  refine lv_irem hx hb dX5_minutesLeft_16 (by decide) ?_
  refine lv_isub hx hb dX5_minutesLeft_17 ?_
  exact fin_i hx hb hr hlocks hK hP hD hS eS dX5_minutesLeft_18
def sX5_takeUnits_j52 (g : Nat → Int32) (u : Nat → Int32) (t : Int32) (x_1 : Int32) : (Nat → Int32) :=
  (upd (upd (upd (upd g 2 0) 3 ((g 3) + x_1)) 4 (if (g 4) < ((g 2) + t) then ((g 2) + t) else (g 4))) 5 ((g 5) + t))
def sX5_takeUnits (g : Nat → Int32) (u : Nat → Int32) (t : Int32) : (Nat → Int32) :=
  (if (sX5_minutesLeft (upd (upd g 2 ((g 2) + t)) 5 ((g 5) + t)) u) = 1 then (sX5_takeUnits_j52 g u t (if ((g 2) + t) ≤ (u 0) then 0 else 1)) else (upd (upd g 2 ((g 2) + t)) 5 ((g 5) + t)))
set_option maxRecDepth 100000 in
set_option maxHeartbeats 4000000 in
theorem c_X5_takeUnits (l : Launch) (G : va_G) (kk : Nat → ClassId) (h : Nat) (x : Nat) (y : Nat) (g : Nat → Int32) (u : Nat → Int32) (t : Int32)  : CC l yX5_takeUnits cX5_takeUnits 2 none (rmO 1 21) [.ref h, .int t] G kk ([(h, .inr (5, sgF x y g)), (x, .inr (3, seF u))]) (QV G kk ([(h, .inr (5, sgF x y (sX5_takeUnits g u t))), (x, .inr (3, seF u))])) := by
  refine cc_start (by decide +kernel) (Nat.le_of_ble_eq_true rfl) ?_
  intro p e s m below meth c A ls hx hb hr hml hown hts hlocks hA hE hK hP hD hS hl
  have hown : s.vm.findClass RX5 = some m.cls := hown
  have hl : lv_has ls 2 [(0, .ref h), (1, .int t)] := hl
  have eS : sX5_takeUnits g u t = sX5_takeUnits g u t := rfl
  refine lv_aload_n hx hb dX5_takeUnits_0 rfl (lv_at hl 0 rfl) ?_
  refine lv_dup hx hb dX5_takeUnits_1 rfl ?_
  refine r_get (v := .int (g 2)) hx hb hts hown hK hP fl_X5_38 0 rfl rfl dX5_takeUnits_2 ?_
  refine lv_iload_n hx hb dX5_takeUnits_5 rfl (lv_at hl 1 rfl) ?_
  refine lv_iadd hx hb dX5_takeUnits_6 ?_
  refine r_put hx hb hts hown hK hP hD hS fl_X5_38 fw_5_3 0 rfl rfl rfl (Nat.le_of_ble_eq_true rfl) dX5_takeUnits_7 (fun H locs hP hD hS => ?_)
  replace hP : va_P G vwCl ([(h, .inr (5, sgF x y (upd g 2 ((g 2) + t)))), (x, .inr (3, seF u))]) H := hP
  replace hD : va_D A ([(h, .inr (5, sgF x y (upd g 2 ((g 2) + t)))), (x, .inr (3, seF u))]) := hD
  refine lv_aload_n hx hb dX5_takeUnits_10 rfl (lv_at hl 0 rfl) ?_
  refine lv_dup hx hb dX5_takeUnits_11 rfl ?_
  refine r_get (v := .int (g 5)) hx hb hts hown hK hP fl_X5_47 0 rfl rfl dX5_takeUnits_12 ?_
  refine lv_iload_n hx hb dX5_takeUnits_15 rfl (lv_at hl 1 rfl) ?_
  refine lv_iadd hx hb dX5_takeUnits_16 ?_
  refine r_put hx hb hts hown hK hP hD hS fl_X5_47 fw_5_6 0 rfl rfl rfl (Nat.le_of_ble_eq_true rfl) dX5_takeUnits_17 (fun H locs hP hD hS => ?_)
  replace hP : va_P G vwCl ([(h, .inr (5, sgF x y (upd (upd g 2 ((g 2) + t)) 5 ((g 5) + t)))), (x, .inr (3, seF u))]) H := hP
  replace hD : va_D A ([(h, .inr (5, sgF x y (upd (upd g 2 ((g 2) + t)) 5 ((g 5) + t)))), (x, .inr (3, seF u))]) := hD
  refine lv_aload_n hx hb dX5_takeUnits_20 rfl (lv_at hl 0 rfl) ?_
  refine k_goI (k_runV (rest := []) (As := []) hx hb hml hown hts hK hP hD hS hA hE hl.1 (c_X5_minutesLeft l G kk h x y (upd (upd g 2 ((g 2) + t)) 5 ((g 5) + t)) u ) vl_X5_66 rfl rfl rfl ⟨Nat.le_of_ble_eq_true rfl, Nat.le_of_ble_eq_true rfl, rfl, rfl⟩ [0, 1] rfl rfl ⟨Nat.zero_le _, Nat.zero_le _⟩ rfl (Nat.le_of_ble_eq_true rfl) dX5_takeUnits_21) hP hD hS hA [0, 1] rfl ads2 (fun H locs hP hD hS => ?_)
  replace hP : va_P G vwCl ([(h, .inr (5, sgF x y (upd (upd g 2 ((g 2) + t)) 5 ((g 5) + t)))), (x, .inr (3, seF u))]) H := hP
  replace hD : va_D A ([(h, .inr (5, sgF x y (upd (upd g 2 ((g 2) + t)) 5 ((g 5) + t)))), (x, .inr (3, seF u))]) := hD
  refine lv_iconst (v := 1) hx hb dX5_takeUnits_24 (by decide) ?_
  refine lv_icmp_ne (tgt := 76) hx hb dX5_takeUnits_25 (by decide) (fun c_25 => ?_) (fun c_25 => ?_)
  · have eS := eS.trans (if_neg c_25)
    exact fin_v hx hb hr hlocks hK (vP_eq (congrArg (fun z : (Nat → Int32) => ([(h, .inr (5, sgF x y z)), (x, .inr (3, seF u))] : va_W)) eS.symm) hP) (vD_eq (congrArg (fun z : (Nat → Int32) => ([(h, .inr (5, sgF x y z)), (x, .inr (3, seF u))] : va_W)) eS.symm) hD) hS dX5_takeUnits_76
  · have eS := eS.trans (if_pos c_25)
    refine lv_aload_n hx hb dX5_takeUnits_28 rfl (lv_at hl 0 rfl) ?_
    refine lv_dup hx hb dX5_takeUnits_29 rfl ?_
    refine r_get (v := .int (g 3)) hx hb hts hown hK hP fl_X5_41 0 rfl rfl dX5_takeUnits_30 ?_
    refine lv_aload_n hx hb dX5_takeUnits_33 rfl (lv_at hl 0 rfl) ?_
    refine r_get (v := .int ((g 2) + t)) hx hb hts hown hK hP fl_X5_38 0 rfl rfl dX5_takeUnits_34 ?_
    refine lv_aload_n hx hb dX5_takeUnits_37 rfl (lv_at hl 0 rfl) ?_
    refine r_get (v := .ref x) hx hb hts hown hK hP fl_X5_12 0 rfl rfl dX5_takeUnits_38 ?_
    refine r_getN (v := .int (u 0)) hE hx hb hts hown hK hP fn_X5_159 1 rfl rfl dX5_takeUnits_41 ?_
    have J_2 : ∀ (x_1 : Int32) (ex_1 : x_1 = (if ((g 2) + t) ≤ (u 0) then 0 else 1)) (eS : sX5_takeUnits g u t = sX5_takeUnits_j52 g u t x_1) (H : Heap) (locs : List Loc) (ls : Array Slot) (hP : va_P G vwCl ([(h, .inr (5, sgF x y (upd (upd g 2 ((g 2) + t)) 5 ((g 5) + t)))), (x, .inr (3, seF u))]) H) (hD : va_D A ([(h, .inr (5, sgF x y (upd (upd g 2 ((g 2) + t)) 5 ((g 5) + t)))), (x, .inr (3, seF u))])) (hS : va_S A s.heap H locs) (hl : lv_has ls 2 [(0, .ref h), (1, .int t)]), GO p l e (rmO 1 21) s m ([.ref h, .int t] : List Value).toArray below meth c A (QV G kk ([(h, .inr (5, sgF x y (sX5_takeUnits g u t))), (x, .inr (3, seF u))])) H locs (F0 m 52 ls [.int x_1, .int (g 3), .ref h]) := by
      intro x_1 ex_1 eS H locs ls hP hD hS hl
      refine lv_iadd hx hb dX5_takeUnits_52 ?_
      refine r_put hx hb hts hown hK hP hD hS fl_X5_41 fw_5_4 0 rfl rfl rfl (Nat.le_of_ble_eq_true rfl) dX5_takeUnits_53 (fun H locs hP hD hS => ?_)
      replace hP : va_P G vwCl ([(h, .inr (5, sgF x y (upd (upd (upd g 2 ((g 2) + t)) 3 ((g 3) + x_1)) 5 ((g 5) + t)))), (x, .inr (3, seF u))]) H := hP
      replace hD : va_D A ([(h, .inr (5, sgF x y (upd (upd (upd g 2 ((g 2) + t)) 3 ((g 3) + x_1)) 5 ((g 5) + t)))), (x, .inr (3, seF u))]) := hD
      refine lv_aload_n hx hb dX5_takeUnits_56 rfl (lv_at hl 0 rfl) ?_
      refine lv_aload_n hx hb dX5_takeUnits_57 rfl (lv_at hl 0 rfl) ?_
      refine r_get (v := .int (g 4)) hx hb hts hown hK hP fl_X5_44 0 rfl rfl dX5_takeUnits_58 ?_
      refine lv_aload_n hx hb dX5_takeUnits_61 rfl (lv_at hl 0 rfl) ?_
      refine r_get (v := .int ((g 2) + t)) hx hb hts hown hK hP fl_X5_38 0 rfl rfl dX5_takeUnits_62 ?_
      refine r_mmax hx hb hts hml hl.1 hown ml_X5_162 jm_max (Nat.le_of_ble_eq_true rfl) (Nat.le_of_ble_eq_true rfl) (Nat.zero_le _) (Nat.zero_le _) dX5_takeUnits_65 ?_
      refine r_put hx hb hts hown hK hP hD hS fl_X5_44 fw_5_5 0 rfl rfl rfl (Nat.le_of_ble_eq_true rfl) dX5_takeUnits_68 (fun H locs hP hD hS => ?_)
      replace hP : va_P G vwCl ([(h, .inr (5, sgF x y (upd (upd (upd (upd g 2 ((g 2) + t)) 3 ((g 3) + x_1)) 4 (if (g 4) < ((g 2) + t) then ((g 2) + t) else (g 4))) 5 ((g 5) + t)))), (x, .inr (3, seF u))]) H := hP
      replace hD : va_D A ([(h, .inr (5, sgF x y (upd (upd (upd (upd g 2 ((g 2) + t)) 3 ((g 3) + x_1)) 4 (if (g 4) < ((g 2) + t) then ((g 2) + t) else (g 4))) 5 ((g 5) + t)))), (x, .inr (3, seF u))]) := hD
      refine lv_aload_n hx hb dX5_takeUnits_71 rfl (lv_at hl 0 rfl) ?_
      refine lv_iconst (v := 0) hx hb dX5_takeUnits_72 (by decide) ?_
      refine r_put hx hb hts hown hK hP hD hS fl_X5_38 fw_5_3 0 rfl rfl rfl (Nat.le_of_ble_eq_true rfl) dX5_takeUnits_73 (fun H locs hP hD hS => ?_)
      replace hP : va_P G vwCl ([(h, .inr (5, sgF x y (upd (upd (upd (upd g 2 0) 3 ((g 3) + x_1)) 4 (if (g 4) < ((g 2) + t) then ((g 2) + t) else (g 4))) 5 ((g 5) + t)))), (x, .inr (3, seF u))]) H := hP
      replace hD : va_D A ([(h, .inr (5, sgF x y (upd (upd (upd (upd g 2 0) 3 ((g 3) + x_1)) 4 (if (g 4) < ((g 2) + t) then ((g 2) + t) else (g 4))) 5 ((g 5) + t)))), (x, .inr (3, seF u))]) := hD
      exact fin_v hx hb hr hlocks hK (vP_eq (congrArg (fun z : (Nat → Int32) => ([(h, .inr (5, sgF x y z)), (x, .inr (3, seF u))] : va_W)) eS.symm) hP) (vD_eq (congrArg (fun z : (Nat → Int32) => ([(h, .inr (5, sgF x y z)), (x, .inr (3, seF u))] : va_W)) eS.symm) hD) hS dX5_takeUnits_76
    refine lv_icmp_le (tgt := 51) hx hb dX5_takeUnits_44 (by decide) (fun c_44 => ?_) (fun c_44 => ?_)
    · refine lv_iconst (v := 0) hx hb dX5_takeUnits_51 (by decide) ?_
      exact J_2 0 (if_pos c_44).symm (eS.trans (cg1 (sX5_takeUnits_j52 g u t) (if_pos c_44))) _ _ ls hP hD hS (lv_sub hl [0, 1] rfl)
    · refine lv_iconst (v := 1) hx hb dX5_takeUnits_47 (by decide) ?_
      refine lv_goto (tgt := 52) hx hb dX5_takeUnits_48 (by decide) ?_
      exact J_2 1 (if_neg c_44).symm (eS.trans (cg1 (sX5_takeUnits_j52 g u t) (if_neg c_44))) _ _ ls hP hD hS (lv_sub hl [0, 1] rfl)
def sX5_spareKilowatts (g : Nat → Int32) (u : Nat → Int32) : Int32 :=
  (if ((u 0) - (g 2)) < 0 then (-1) else (if 1 ≤ (sX5_minutesLeft g u) then (if 0 ≤ ((((u 0) - (g 2)) / (sX5_minutesLeft g u)) - (u 2)) then (if 9999 < ((((u 0) - (g 2)) / (sX5_minutesLeft g u)) - (u 2)) then 9999 else ((((u 0) - (g 2)) / (sX5_minutesLeft g u)) - (u 2))) else (-1)) else (-1)))
set_option maxRecDepth 100000 in
set_option maxHeartbeats 4000000 in
theorem c_X5_spareKilowatts (l : Launch) (G : va_G) (kk : Nat → ClassId) (h : Nat) (x : Nat) (y : Nat) (g : Nat → Int32) (u : Nat → Int32)  : CC l yX5_spareKilowatts cX5_spareKilowatts 4 (some .int) (rmO 1 21) [.ref h] G kk ([(h, .inr (5, sgF x y g)), (x, .inr (3, seF u))]) (QI G kk ([(h, .inr (5, sgF x y g)), (x, .inr (3, seF u))]) (sX5_spareKilowatts g u)) := by
  refine cc_start (by decide +kernel) (Nat.le_of_ble_eq_true rfl) ?_
  intro p e s m below meth c A ls hx hb hr hml hown hts hlocks hA hE hK hP hD hS hl
  have hown : s.vm.findClass RX5 = some m.cls := hown
  have hl : lv_has ls 4 [(0, .ref h)] := hl
  have eS : sX5_spareKilowatts g u = sX5_spareKilowatts g u := rfl
  refine lv_aload_n hx hb dX5_spareKilowatts_0 rfl (lv_at hl 0 rfl) ?_
  refine k_goI (k_runV (rest := []) (As := []) hx hb hml hown hts hK hP hD hS hA hE hl.1 (c_X5_minutesLeft l G kk h x y g u ) vl_X5_66 rfl rfl rfl ⟨Nat.le_of_ble_eq_true rfl, Nat.le_of_ble_eq_true rfl, rfl, rfl⟩ [0, 1] rfl rfl ⟨Nat.zero_le _, Nat.zero_le _⟩ rfl (Nat.le_of_ble_eq_true rfl) dX5_spareKilowatts_1) hP hD hS hA [0, 1] rfl ads2 (fun H locs hP hD hS => ?_)
  replace hP : va_P G vwCl ([(h, .inr (5, sgF x y g)), (x, .inr (3, seF u))]) H := hP
  replace hD : va_D A ([(h, .inr (5, sgF x y g)), (x, .inr (3, seF u))]) := hD
  refine lv_istore_n (lv' := [(1, .int (sX5_minutesLeft g u)), (0, .ref h)]) hx hb dX5_spareKilowatts_4 rfl hl (by decide) rfl (fun ls hl => ?_)
  refine lv_aload_n hx hb dX5_spareKilowatts_5 rfl (lv_at hl 1 rfl) ?_
  refine r_get (v := .ref x) hx hb hts hown hK hP fl_X5_12 0 rfl rfl dX5_spareKilowatts_6 ?_
  refine r_getN (v := .int (u 0)) hE hx hb hts hown hK hP fn_X5_159 1 rfl rfl dX5_spareKilowatts_9 ?_
  refine lv_aload_n hx hb dX5_spareKilowatts_12 rfl (lv_at hl 1 rfl) ?_
  refine r_get (v := .int (g 2)) hx hb hts hown hK hP fl_X5_38 0 rfl rfl dX5_spareKilowatts_13 ?_
  refine lv_isub hx hb dX5_spareKilowatts_16 ?_
  refine lv_istore_n (lv' := [(2, .int ((u 0) - (g 2))), (1, .int (sX5_minutesLeft g u)), (0, .ref h)]) hx hb dX5_spareKilowatts_17 rfl hl (by decide) rfl (fun ls hl => ?_)
  refine lv_iload_n hx hb dX5_spareKilowatts_18 rfl (lv_at hl 0 rfl) ?_
  refine lv_if_lt (tgt := 27) hx hb dX5_spareKilowatts_19 (by decide) (fun c_19 => ?_) (fun c_19 => ?_)
  · have eS := eS.trans (if_pos c_19)
    refine lv_iconst (v := (-1)) hx hb dX5_spareKilowatts_27 (by decide) ?_
    exact fin_i hx hb hr hlocks hK hP hD hS eS dX5_spareKilowatts_28
  · have eS := eS.trans (if_neg c_19)
    refine lv_iload_n hx hb dX5_spareKilowatts_22 rfl (lv_at hl 1 rfl) ?_
    refine lv_iconst (v := 1) hx hb dX5_spareKilowatts_23 (by decide) ?_
    refine lv_icmp_ge (tgt := 29) hx hb dX5_spareKilowatts_24 (by decide) (fun c_24 => ?_) (fun c_24 => ?_)
    · have eS := eS.trans (if_pos c_24)
      refine lv_iload_n hx hb dX5_spareKilowatts_29 rfl (lv_at hl 0 rfl) ?_
      refine lv_iload_n hx hb dX5_spareKilowatts_30 rfl (lv_at hl 1 rfl) ?_
      refine lv_idiv hx hb dX5_spareKilowatts_31 (ne1 c_24) ?_
      refine lv_aload_n hx hb dX5_spareKilowatts_32 rfl (lv_at hl 2 rfl) ?_
      refine r_get (v := .ref x) hx hb hts hown hK hP fl_X5_12 0 rfl rfl dX5_spareKilowatts_33 ?_
      refine r_getN (v := .int (u 2)) hE hx hb hts hown hK hP fn_X5_123 1 rfl rfl dX5_spareKilowatts_36 ?_
      refine lv_isub hx hb dX5_spareKilowatts_39 ?_
      refine lv_istore_n (lv' := [(3, .int ((((u 0) - (g 2)) / (sX5_minutesLeft g u)) - (u 2))), (2, .int ((u 0) - (g 2))), (1, .int (sX5_minutesLeft g u)), (0, .ref h)]) hx hb dX5_spareKilowatts_40 rfl hl (by decide) rfl (fun ls hl => ?_)
      refine lv_iload_n hx hb dX5_spareKilowatts_41 rfl (lv_at hl 0 rfl) ?_
      refine lv_if_ge (tgt := 49) hx hb dX5_spareKilowatts_42 (by decide) (fun c_42 => ?_) (fun c_42 => ?_)
      · have eS := eS.trans (if_pos c_42)
        refine lv_iload_n hx hb dX5_spareKilowatts_49 rfl (lv_at hl 0 rfl) ?_
        refine lv_sipush (v := 9999) hx hb dX5_spareKilowatts_50 (by decide) ?_
        refine r_mmin hx hb hts hml hl.1 hown ml_X5_171 jm_min (Nat.le_of_ble_eq_true rfl) (Nat.le_of_ble_eq_true rfl) (Nat.zero_le _) (Nat.zero_le _) dX5_spareKilowatts_53 ?_
        exact fin_i hx hb hr hlocks hK hP hD hS eS dX5_spareKilowatts_56
      · have eS := eS.trans (if_neg c_42)
        refine lv_iconst (v := (-1)) hx hb dX5_spareKilowatts_45 (by decide) ?_
        refine lv_goto (tgt := 56) hx hb dX5_spareKilowatts_46 (by decide) ?_
        exact fin_i hx hb hr hlocks hK hP hD hS eS dX5_spareKilowatts_56
    · have eS := eS.trans (if_neg c_24)
      refine lv_iconst (v := (-1)) hx hb dX5_spareKilowatts_27 (by decide) ?_
      exact fin_i hx hb hr hlocks hK hP hD hS eS dX5_spareKilowatts_28
def sX5_canBeRoom (x : Int32) (y : Int32) (z : Int32) : Int32 :=
  (if x < 1 then 0 else (if 50 < x then 0 else (if y < (-300) then 0 else (if z ≤ y then 0 else (if 200 < z then 0 else 1)))))
set_option maxRecDepth 100000 in
set_option maxHeartbeats 4000000 in
theorem c_X5_canBeRoom (l : Launch) (G : va_G) (kk : Nat → ClassId) (x : Int32) (y : Int32) (z : Int32)  : CC l yX5_canBeRoom cX5_canBeRoom 3 (some .boolean) (rmO 0 0) [.int x, .int y, .int z] G kk ([]) (QI G kk ([]) (sX5_canBeRoom x y z)) := by
  refine cc_start (by decide +kernel) (Nat.le_of_ble_eq_true rfl) ?_
  intro p e s m below meth c A ls hx hb hr hml hown hts hlocks hA hE hK hP hD hS hl
  have hown : s.vm.findClass RX5 = some m.cls := hown
  have hl : lv_has ls 3 [(0, .int x), (1, .int y), (2, .int z)] := hl
  have eS : sX5_canBeRoom x y z = sX5_canBeRoom x y z := rfl
  refine lv_iload_n hx hb dX5_canBeRoom_0 rfl (lv_at hl 0 rfl) ?_
  refine lv_iconst (v := 1) hx hb dX5_canBeRoom_1 (by decide) ?_
  refine lv_icmp_lt (tgt := 34) hx hb dX5_canBeRoom_2 (by decide) (fun c_2 => ?_) (fun c_2 => ?_)
  · have eS := eS.trans (if_pos c_2)
    refine lv_iconst (v := 0) hx hb dX5_canBeRoom_34 (by decide) ?_
    exact fin_z hx hb hr hlocks hK hP hD hS eS rfl dX5_canBeRoom_35
  · have eS := eS.trans (if_neg c_2)
    refine lv_iload_n hx hb dX5_canBeRoom_5 rfl (lv_at hl 0 rfl) ?_
    refine lv_bipush (v := 50) hx hb dX5_canBeRoom_6 (by decide) ?_
    refine lv_icmp_gt (tgt := 34) hx hb dX5_canBeRoom_8 (by decide) (fun c_8 => ?_) (fun c_8 => ?_)
    · have eS := eS.trans (if_pos c_8)
      refine lv_iconst (v := 0) hx hb dX5_canBeRoom_34 (by decide) ?_
      exact fin_z hx hb hr hlocks hK hP hD hS eS rfl dX5_canBeRoom_35
    · have eS := eS.trans (if_neg c_8)
      refine lv_iload_n hx hb dX5_canBeRoom_11 rfl (lv_at hl 1 rfl) ?_
      refine lv_sipush (v := (-300)) hx hb dX5_canBeRoom_12 (by decide) ?_
      refine lv_icmp_lt (tgt := 34) hx hb dX5_canBeRoom_15 (by decide) (fun c_15 => ?_) (fun c_15 => ?_)
      · have eS := eS.trans (if_pos c_15)
        refine lv_iconst (v := 0) hx hb dX5_canBeRoom_34 (by decide) ?_
        exact fin_z hx hb hr hlocks hK hP hD hS eS rfl dX5_canBeRoom_35
      · have eS := eS.trans (if_neg c_15)
        refine lv_iload_n hx hb dX5_canBeRoom_18 rfl (lv_at hl 1 rfl) ?_
        refine lv_iload_n hx hb dX5_canBeRoom_19 rfl (lv_at hl 2 rfl) ?_
        refine lv_icmp_ge (tgt := 34) hx hb dX5_canBeRoom_20 (by decide) (fun c_20 => ?_) (fun c_20 => ?_)
        · have eS := eS.trans (if_pos c_20)
          refine lv_iconst (v := 0) hx hb dX5_canBeRoom_34 (by decide) ?_
          exact fin_z hx hb hr hlocks hK hP hD hS eS rfl dX5_canBeRoom_35
        · have eS := eS.trans (if_neg c_20)
          refine lv_iload_n hx hb dX5_canBeRoom_23 rfl (lv_at hl 2 rfl) ?_
          refine lv_sipush (v := 200) hx hb dX5_canBeRoom_24 (by decide) ?_
          refine lv_icmp_gt (tgt := 34) hx hb dX5_canBeRoom_27 (by decide) (fun c_27 => ?_) (fun c_27 => ?_)
          · have eS := eS.trans (if_pos c_27)
            refine lv_iconst (v := 0) hx hb dX5_canBeRoom_34 (by decide) ?_
            exact fin_z hx hb hr hlocks hK hP hD hS eS rfl dX5_canBeRoom_35
          · have eS := eS.trans (if_neg c_27)
            refine lv_iconst (v := 1) hx hb dX5_canBeRoom_30 (by decide) ?_
            refine lv_goto (tgt := 35) hx hb dX5_canBeRoom_31 (by decide) ?_
            exact fin_z hx hb hr hlocks hK hP hD hS eS rfl dX5_canBeRoom_35
def sX5_canPass (n : Int32) : Int32 :=
  (if n < 1 then 0 else (if 60 < n then 0 else 1))
set_option maxRecDepth 100000 in
set_option maxHeartbeats 4000000 in
theorem c_X5_canPass (l : Launch) (G : va_G) (kk : Nat → ClassId) (n : Int32)  : CC l yX5_canPass cX5_canPass 1 (some .boolean) (rmO 0 0) [.int n] G kk ([]) (QI G kk ([]) (sX5_canPass n)) := by
  refine cc_start (by decide +kernel) (Nat.le_of_ble_eq_true rfl) ?_
  intro p e s m below meth c A ls hx hb hr hml hown hts hlocks hA hE hK hP hD hS hl
  have hown : s.vm.findClass RX5 = some m.cls := hown
  have hl : lv_has ls 1 [(0, .int n)] := hl
  have eS : sX5_canPass n = sX5_canPass n := rfl
  refine lv_iload_n hx hb dX5_canPass_0 rfl (lv_at hl 0 rfl) ?_
  refine lv_iconst (v := 1) hx hb dX5_canPass_1 (by decide) ?_
  refine lv_icmp_lt (tgt := 15) hx hb dX5_canPass_2 (by decide) (fun c_2 => ?_) (fun c_2 => ?_)
  · have eS := eS.trans (if_pos c_2)
    refine lv_iconst (v := 0) hx hb dX5_canPass_15 (by decide) ?_
    exact fin_z hx hb hr hlocks hK hP hD hS eS rfl dX5_canPass_16
  · have eS := eS.trans (if_neg c_2)
    refine lv_iload_n hx hb dX5_canPass_5 rfl (lv_at hl 0 rfl) ?_
    refine lv_bipush (v := 60) hx hb dX5_canPass_6 (by decide) ?_
    refine lv_icmp_gt (tgt := 15) hx hb dX5_canPass_8 (by decide) (fun c_8 => ?_) (fun c_8 => ?_)
    · have eS := eS.trans (if_pos c_8)
      refine lv_iconst (v := 0) hx hb dX5_canPass_15 (by decide) ?_
      exact fin_z hx hb hr hlocks hK hP hD hS eS rfl dX5_canPass_16
    · have eS := eS.trans (if_neg c_8)
      refine lv_iconst (v := 1) hx hb dX5_canPass_11 (by decide) ?_
      refine lv_goto (tgt := 16) hx hb dX5_canPass_12 (by decide) ?_
      exact fin_z hx hb hr hlocks hK hP hD hS eS rfl dX5_canPass_16
def sX5_canBeTemperature (v : Int32) : Int32 :=
  (if v < (-400) then 0 else (if 400 < v then 0 else 1))
set_option maxRecDepth 100000 in
set_option maxHeartbeats 4000000 in
theorem c_X5_canBeTemperature (l : Launch) (G : va_G) (kk : Nat → ClassId) (v : Int32)  : CC l yX5_canBeTemperature cX5_canBeTemperature 1 (some .boolean) (rmO 0 0) [.int v] G kk ([]) (QI G kk ([]) (sX5_canBeTemperature v)) := by
  refine cc_start (by decide +kernel) (Nat.le_of_ble_eq_true rfl) ?_
  intro p e s m below meth c A ls hx hb hr hml hown hts hlocks hA hE hK hP hD hS hl
  have hown : s.vm.findClass RX5 = some m.cls := hown
  have hl : lv_has ls 1 [(0, .int v)] := hl
  have eS : sX5_canBeTemperature v = sX5_canBeTemperature v := rfl
  refine lv_iload_n hx hb dX5_canBeTemperature_0 rfl (lv_at hl 0 rfl) ?_
  refine lv_sipush (v := (-400)) hx hb dX5_canBeTemperature_1 (by decide) ?_
  refine lv_icmp_lt (tgt := 18) hx hb dX5_canBeTemperature_4 (by decide) (fun c_4 => ?_) (fun c_4 => ?_)
  · have eS := eS.trans (if_pos c_4)
    refine lv_iconst (v := 0) hx hb dX5_canBeTemperature_18 (by decide) ?_
    exact fin_z hx hb hr hlocks hK hP hD hS eS rfl dX5_canBeTemperature_19
  · have eS := eS.trans (if_neg c_4)
    refine lv_iload_n hx hb dX5_canBeTemperature_7 rfl (lv_at hl 0 rfl) ?_
    refine lv_sipush (v := 400) hx hb dX5_canBeTemperature_8 (by decide) ?_
    refine lv_icmp_gt (tgt := 18) hx hb dX5_canBeTemperature_11 (by decide) (fun c_11 => ?_) (fun c_11 => ?_)
    · have eS := eS.trans (if_pos c_11)
      refine lv_iconst (v := 0) hx hb dX5_canBeTemperature_18 (by decide) ?_
      exact fin_z hx hb hr hlocks hK hP hD hS eS rfl dX5_canBeTemperature_19
    · have eS := eS.trans (if_neg c_11)
      refine lv_iconst (v := 1) hx hb dX5_canBeTemperature_14 (by decide) ?_
      refine lv_goto (tgt := 19) hx hb dX5_canBeTemperature_15 (by decide) ?_
      exact fin_z hx hb hr hlocks hK hP hD hS eS rfl dX5_canBeTemperature_19
def sX5_roomAt (g : Nat → Int32) (u : Nat → Int32) (rv : Nat → Nat → Int32) (i : Int32) : Option Nat :=
  (if i < 0 then none else (if i < (nI 6) then (if (sX2_isThere (rv i.toNatClampNeg)) = 0 then none else (some i.toNatClampNeg)) else none))
set_option maxRecDepth 100000 in
set_option maxHeartbeats 4000000 in
theorem c_X5_roomAt (l : Launch) (G : va_G) (kk : Nat → ClassId) (a : Nat → Nat) (g : Nat → Int32) (u : Nat → Int32) (rv : Nat → Nat → Int32) (i : Int32)  : CC l yX5_roomAt cX5_roomAt 3 (some (.object "MeterRooms$Room")) (rmO 1 20) [.ref (a 0), .int i] G kk (stW kk a g u rv) (QQ G kk (stW kk a g u rv) (Option.map (fun k => a (3 + k)) (sX5_roomAt g u rv i))) := by
  refine cc_start (by decide +kernel) (Nat.le_of_ble_eq_true rfl) ?_
  intro p e s m below meth c A ls hx hb hr hml hown hts hlocks hA hE hK hP hD hS hl
  have hown : s.vm.findClass RX5 = some m.cls := hown
  have hl : lv_has ls 3 [(0, .ref (a 0)), (1, .int i)] := hl
  have eS : sX5_roomAt g u rv i = sX5_roomAt g u rv i := rfl
  refine lv_iload_n hx hb dX5_roomAt_0 rfl (lv_at hl 1 rfl) ?_
  refine lv_if_lt (tgt := 13) hx hb dX5_roomAt_1 (by decide) (fun c_1 => ?_) (fun c_1 => ?_)
  · have eS := eS.trans (if_pos c_1)
    refine lv_null hx hb dX5_roomAt_13 ?_
    exact fin_q (v := (Option.map (fun k => a (3 + k)) none)) hx hb hr hlocks hK hP hD hS (congrArg (fun z : Option Nat => (Option.map (fun k => a (3 + k)) z)) eS) dX5_roomAt_14
  · have eS := eS.trans (if_neg c_1)
    refine lv_iload_n hx hb dX5_roomAt_4 rfl (lv_at hl 1 rfl) ?_
    refine lv_aload_n hx hb dX5_roomAt_5 rfl (lv_at hl 0 rfl) ?_
    refine r_get (v := .ref (a 2)) hx hb hts hown hK hP fl_X5_20 0 rfl rfl dX5_roomAt_6 ?_
    refine r_alen (t0 := 3) hx hb hK hP 2 rfl rfl dX5_roomAt_9 ?_
    refine lv_icmp_lt (tgt := 15) hx hb dX5_roomAt_10 (by decide) (fun c_10 => ?_) (fun c_10 => ?_)
    · have eS := eS.trans (if_pos c_10)
      refine lv_aload_n hx hb dX5_roomAt_15 rfl (lv_at hl 0 rfl) ?_
      refine r_get (v := .ref (a 2)) hx hb hts hown hK hP fl_X5_20 0 rfl rfl dX5_roomAt_16 ?_
      refine lv_iload_n hx hb dX5_roomAt_19 rfl (lv_at hl 1 rfl) ?_
      refine r_aald hx hb hK hP 2 3 rfl rfl i.toNatClampNeg (a (3 + i.toNatClampNeg)) (tc_e c_1) (tc_l c_1 (nlt_le c_10) (by decide)) (by decide) rfl dX5_roomAt_20 ?_
      refine lv_astore_n (lv' := [(2, .ref (a (3 + i.toNatClampNeg))), (0, .ref (a 0)), (1, .int i)]) hx hb dX5_roomAt_21 rfl hl (by decide) rfl (fun ls hl => ?_)
      refine lv_aload_n hx hb dX5_roomAt_22 rfl (lv_at hl 0 rfl) ?_
      refine k_goI (k_runV (rest := []) (As := []) hx hb hml hown hts hK hP hD hS hA hE hl.1 (c_X2_isThere l G kk (a (3 + i.toNatClampNeg)) (rv i.toNatClampNeg) ) vl_X5_69 rfl rfl rfl ⟨Nat.le_of_ble_eq_true rfl, Nat.le_of_ble_eq_true rfl, rfl, rfl⟩ [3 + i.toNatClampNeg] (nd1 _) (map1 (st_at (tc_l (n := 6) c_1 (nlt_le c_10) (by decide)))) ⟨Nat.zero_le _, Nat.zero_le _⟩ rfl (Nat.le_of_ble_eq_true rfl) dX5_roomAt_23) hP hD hS hA [3 + i.toNatClampNeg] (map1 (st_at (tc_l (n := 6) c_1 (nlt_le c_10) (by decide)))) ads1 (fun H locs hP hD hS => ?_)
      replace hP : va_P G vwCl (stW kk a g u rv) H := vP_eq (st_same (g := g) (u := u) (tc_l (n := 6) c_1 (nlt_le c_10) (by decide))) hP
      replace hD : va_D A (stW kk a g u rv) := vD_eq (st_same (g := g) (u := u) (tc_l (n := 6) c_1 (nlt_le c_10) (by decide))) hD
      refine lv_if_eq (tgt := 33) hx hb dX5_roomAt_26 (by decide) (fun c_26 => ?_) (fun c_26 => ?_)
      · have eS := eS.trans (if_pos c_26)
        refine lv_null hx hb dX5_roomAt_33 ?_
        exact fin_q (v := (Option.map (fun k => a (3 + k)) none)) hx hb hr hlocks hK hP hD hS (congrArg (fun z : Option Nat => (Option.map (fun k => a (3 + k)) z)) eS) dX5_roomAt_34
      · have eS := eS.trans (if_neg c_26)
        refine lv_aload_n hx hb dX5_roomAt_29 rfl (lv_at hl 0 rfl) ?_
        refine lv_goto (tgt := 34) hx hb dX5_roomAt_30 (by decide) ?_
        exact fin_q (v := (Option.map (fun k => a (3 + k)) (some i.toNatClampNeg))) hx hb hr hlocks hK hP hD hS (congrArg (fun z : Option Nat => (Option.map (fun k => a (3 + k)) z)) eS) dX5_roomAt_34
    · have eS := eS.trans (if_neg c_10)
      refine lv_null hx hb dX5_roomAt_13 ?_
      exact fin_q (v := (Option.map (fun k => a (3 + k)) none)) hx hb hr hlocks hK hP hD hS (congrArg (fun z : Option Nat => (Option.map (fun k => a (3 + k)) z)) eS) dX5_roomAt_14
def lp_X5_firstFree_10 (g : Nat → Int32) (u : Nat → Int32) (rv : Nat → Nat → Int32) : Nat → Nat → Option Nat
  | 0, i => none
  | d + 1, i => (if (sX2_isThere (rv i)) = 0 then (some i) else (lp_X5_firstFree_10 g u rv d (i + 1)))
def sX5_firstFree (g : Nat → Int32) (u : Nat → Int32) (rv : Nat → Nat → Int32) : Option Nat :=
  (lp_X5_firstFree_10 g u rv 6 0)
set_option maxRecDepth 100000 in
set_option maxHeartbeats 4000000 in
theorem c_X5_firstFree (l : Launch) (G : va_G) (kk : Nat → ClassId) (a : Nat → Nat) (g : Nat → Int32) (u : Nat → Int32) (rv : Nat → Nat → Int32)  : CC l yX5_firstFree cX5_firstFree 5 (some (.object "MeterRooms$Room")) (rmO 1 20) [.ref (a 0)] G kk (stW kk a g u rv) (QQ G kk (stW kk a g u rv) (Option.map (fun k => a (3 + k)) (sX5_firstFree g u rv))) := by
  refine cc_start (by decide +kernel) (Nat.le_of_ble_eq_true rfl) ?_
  intro p e s m below meth c A ls hx hb hr hml hown hts hlocks hA hE hK hP hD hS hl
  have hown : s.vm.findClass RX5 = some m.cls := hown
  have hl : lv_has ls 5 [(0, .ref (a 0))] := hl
  have eS : sX5_firstFree g u rv = sX5_firstFree g u rv := rfl
  refine lv_aload_n hx hb dX5_firstFree_0 rfl (lv_at hl 0 rfl) ?_
  refine r_get (v := .ref (a 2)) hx hb hts hown hK hP fl_X5_20 0 rfl rfl dX5_firstFree_1 ?_
  refine lv_astore_n (lv' := [(1, .ref (a 2)), (0, .ref (a 0))]) hx hb dX5_firstFree_4 rfl hl (by decide) rfl (fun ls hl => ?_)
  refine lv_aload_n hx hb dX5_firstFree_5 rfl (lv_at hl 0 rfl) ?_
  refine r_alen (t0 := 3) hx hb hK hP 2 rfl rfl dX5_firstFree_6 ?_
  refine lv_istore_n (lv' := [(2, .int (nI 6)), (1, .ref (a 2)), (0, .ref (a 0))]) hx hb dX5_firstFree_7 rfl hl (by decide) rfl (fun ls hl => ?_)
  refine lv_iconst (v := 0) hx hb dX5_firstFree_8 (by decide) ?_
  refine lv_istore_n (lv' := [(3, .int 0), (2, .int (nI 6)), (1, .ref (a 2)), (0, .ref (a 0))]) hx hb dX5_firstFree_9 rfl hl (by decide) rfl (fun ls hl => ?_)
  have L_1 : ∀ (d : Nat) (i : Nat) (hd : i + d = 6) (eS : sX5_firstFree g u rv = lp_X5_firstFree_10 g u rv d i) (H : Heap) (locs : List Loc) (ls : Array Slot) (hP : va_P G vwCl (stW kk a g u rv) H) (hD : va_D A (stW kk a g u rv)) (hS : va_S A s.heap H locs) (hl : lv_has ls 5 [(2, .int (nI 6)), (1, .ref (a 2)), (0, .ref (a 0)), (3, .int (nI i))]), GO p l e (rmO 1 20) s m ([.ref (a 0)] : List Value).toArray below meth c A (QQ G kk (stW kk a g u rv) (Option.map (fun k => a (3 + k)) (sX5_firstFree g u rv))) H locs (F0 m 10 ls []) := by
    intro d
    induction d with
    | zero =>
      intro i hd eS H locs ls hP hD hS hl
      refine lv_iload_n hx hb dX5_firstFree_10 rfl (lv_at hl 3 rfl) ?_
      refine lv_iload_n hx hb dX5_firstFree_11 rfl (lv_at hl 0 rfl) ?_
      refine lv_icmp_ge (tgt := 37) hx hb dX5_firstFree_12 (by decide) (fun c_12 => ?_) (fun c_12 => absurd (nI_le (by omega) (by omega)) c_12)
      refine lv_null hx hb dX5_firstFree_37 ?_
      exact fin_q (v := (Option.map (fun k => a (3 + k)) none)) hx hb hr hlocks hK hP hD hS (congrArg (fun z : Option Nat => (Option.map (fun k => a (3 + k)) z)) eS) dX5_firstFree_38
    | succ d ih =>
      intro i hd eS H locs ls hP hD hS hl
      have hi : i < 6 := by omega
      refine lv_iload_n hx hb dX5_firstFree_10 rfl (lv_at hl 3 rfl) ?_
      refine lv_iload_n hx hb dX5_firstFree_11 rfl (lv_at hl 0 rfl) ?_
      refine lv_icmp_ge (tgt := 37) hx hb dX5_firstFree_12 (by decide) (fun c_12 => absurd c_12 (nI_ge (by omega) (by decide))) (fun c_12 => ?_)
      refine lv_aload_n hx hb dX5_firstFree_15 rfl (lv_at hl 1 rfl) ?_
      refine lv_iload_n hx hb dX5_firstFree_16 rfl (lv_at hl 3 rfl) ?_
      refine r_aald hx hb hK hP 2 3 rfl rfl i (a (3 + i)) rfl (by omega) (by decide) rfl dX5_firstFree_17 ?_
      refine lv_astore (lv' := [(4, .ref (a (3 + i))), (2, .int (nI 6)), (1, .ref (a 2)), (0, .ref (a 0)), (3, .int (nI i))]) hx hb dX5_firstFree_18 hl (by decide) rfl (fun ls hl => ?_)
      refine lv_aload hx hb dX5_firstFree_20 (lv_at hl 0 rfl) ?_
      refine k_goI (k_runV (rest := []) (As := []) hx hb hml hown hts hK hP hD hS hA hE hl.1 (c_X2_isThere l G kk (a (3 + i)) (rv i) ) vl_X5_69 rfl rfl rfl ⟨Nat.le_of_ble_eq_true rfl, Nat.le_of_ble_eq_true rfl, rfl, rfl⟩ [3 + i] (nd1 _) (map1 (st_at hi)) ⟨Nat.zero_le _, Nat.zero_le _⟩ rfl (Nat.le_of_ble_eq_true rfl) dX5_firstFree_22) hP hD hS hA [3 + i] (map1 (st_at hi)) ads1 (fun H locs hP hD hS => ?_)
      replace hP : va_P G vwCl (stW kk a g u rv) H := vP_eq (st_same (g := g) (u := u) hi) hP
      replace hD : va_D A (stW kk a g u rv) := vD_eq (st_same (g := g) (u := u) hi) hD
      refine lv_if_ne (tgt := 31) hx hb dX5_firstFree_25 (by decide) (fun c_25 => ?_) (fun c_25 => ?_)
      · have eS := eS.trans (if_neg c_25)
        refine lv_iinc (v := (nI (i + 1))) (lv' := [(3, .int (nI (i + 1))), (4, .ref (a (3 + i))), (2, .int (nI 6)), (1, .ref (a 2)), (0, .ref (a 0))]) hx hb dX5_firstFree_31 hl (k := 4) rfl (nI_add i 1) (by decide) rfl (fun ls hl => ?_)
        refine lv_goto (tgt := 10) hx hb dX5_firstFree_34 (by decide) ?_
        exact ih (i + 1) (by omega) eS _ _ ls hP hD hS (lv_sub hl [2, 3, 4, 0] rfl)
      · have eS := eS.trans (if_pos c_25)
        refine lv_aload hx hb dX5_firstFree_28 (lv_at hl 0 rfl) ?_
        exact fin_q (v := (Option.map (fun k => a (3 + k)) (some i))) hx hb hr hlocks hK hP hD hS (congrArg (fun z : Option Nat => (Option.map (fun k => a (3 + k)) z)) eS) dX5_firstFree_30
  exact L_1 6 0 rfl eS _ _ ls hP hD hS (lv_sub hl [1, 2, 3, 0] rfl)
theorem roomAt_lt {g u : Nat → Int32} {rv : Nat → Nat → Int32} {i : Int32} {k : Nat} (h : sX5_roomAt g u rv i = some k) : k < 6 := by
  unfold sX5_roomAt at h
  by_cases h1 : i < 0
  · rw [if_pos h1] at h; cases h
  · rw [if_neg h1] at h
    by_cases h2 : i < nI 6
    · rw [if_pos h2] at h
      have h3 := tc_l (n := 6) h1 (nlt_le h2) (by decide)
      split at h
      · cases h
      · cases h; exact h3
    · rw [if_neg h2] at h; cases h
theorem firstFree_lt0 {g u : Nat → Int32} {rv : Nat → Nat → Int32} : ∀ (d i k : Nat), i + d = 6 → lp_X5_firstFree_10 g u rv d i = some k → k < 6
  | 0, i, k, _, h => by cases h
  | d + 1, i, k, hd, h => by
    unfold lp_X5_firstFree_10 at h
    split at h
    · cases h; omega
    · exact firstFree_lt0 d (i + 1) k (by omega) h
theorem firstFree_lt {g u : Nat → Int32} {rv : Nat → Nat → Int32} {k : Nat} (h : sX5_firstFree g u rv = some k) : k < 6 := firstFree_lt0 6 0 k rfl h
def sX5_countRooms (g : Nat → Int32) (u : Nat → Int32) (rv : Nat → Nat → Int32) : Int32 :=
  (oe (sX5_firstFree g u rv) (nI 6) (fun k_2 => ((rv k_2) 0)))
set_option maxRecDepth 100000 in
set_option maxHeartbeats 4000000 in
theorem c_X5_countRooms (l : Launch) (G : va_G) (kk : Nat → ClassId) (a : Nat → Nat) (g : Nat → Int32) (u : Nat → Int32) (rv : Nat → Nat → Int32)  : CC l yX5_countRooms cX5_countRooms 2 (some .int) (rmO 2 44) [.ref (a 0)] G kk (stW kk a g u rv) (QI G kk (stW kk a g u rv) (sX5_countRooms g u rv)) := by
  refine cc_start (by decide +kernel) (Nat.le_of_ble_eq_true rfl) ?_
  intro p e s m below meth c A ls hx hb hr hml hown hts hlocks hA hE hK hP hD hS hl
  have hown : s.vm.findClass RX5 = some m.cls := hown
  have hl : lv_has ls 2 [(0, .ref (a 0))] := hl
  have eS : sX5_countRooms g u rv = sX5_countRooms g u rv := rfl
  refine lv_aload_n hx hb dX5_countRooms_0 rfl (lv_at hl 0 rfl) ?_
  refine k_goQ (k_runV (rest := []) (As := []) hx hb hml hown hts hK hP hD hS hA hE hl.1 (c_X5_firstFree l G kk a g u rv ) vl_X5_73 rfl rfl rfl ⟨Nat.le_of_ble_eq_true rfl, Nat.le_of_ble_eq_true rfl, rfl, rfl⟩ [0, 1, 2, 3, 4, 5, 6, 7, 8] rfl st_mapC ⟨Nat.zero_le _, Nat.zero_le _⟩ rfl (Nat.le_of_ble_eq_true rfl) dX5_countRooms_1) hP hD hS hA [0, 1, 2, 3, 4, 5, 6, 7, 8] st_mapC st_ads (fun H locs hP hD hS => ?_)
  replace hP : va_P G vwCl (stW kk a g u rv) H := vP_eq (st_full) hP
  replace hD : va_D A (stW kk a g u rv) := vD_eq (st_full) hD
  rcases opt_or ((sX5_firstFree g u rv)) with hq_1 | ⟨k_2, hq_1⟩
  · refine top_eqV (y := .null) (by rw [hq_1]; rfl) ?_
    have eS := eS.trans (oe_n hq_1)
    refine lv_astore_nN (lv' := [(1, .null), (0, .ref (a 0))]) hx hb dX5_countRooms_4 rfl hl (by decide) rfl (fun ls hl => ?_)
    refine lv_aload_nN hx hb dX5_countRooms_5 rfl (lv_at hl 0 rfl) ?_
    refine lv_ifnonnullN hx hb dX5_countRooms_6 ?_
    refine lv_aload_n hx hb dX5_countRooms_9 rfl (lv_at hl 1 rfl) ?_
    refine r_get (v := .ref (a 2)) hx hb hts hown hK hP fl_X5_20 0 rfl rfl dX5_countRooms_10 ?_
    refine r_alen (t0 := 3) hx hb hK hP 2 rfl rfl dX5_countRooms_13 ?_
    refine lv_goto (tgt := 21) hx hb dX5_countRooms_14 (by decide) ?_
    exact fin_i hx hb hr hlocks hK hP hD hS eS dX5_countRooms_21
  · refine top_eqV (y := .ref (a (3 + k_2))) (by rw [hq_1]; rfl) ?_
    have hk_2 := firstFree_lt hq_1
    have eS := eS.trans (oe_s hq_1)
    refine lv_astore_n (lv' := [(1, .ref (a (3 + k_2))), (0, .ref (a 0))]) hx hb dX5_countRooms_4 rfl hl (by decide) rfl (fun ls hl => ?_)
    refine lv_aload_n hx hb dX5_countRooms_5 rfl (lv_at hl 0 rfl) ?_
    refine lv_ifnonnull (tgt := 17) hx hb dX5_countRooms_6 (by decide) ?_
    refine lv_aload_n hx hb dX5_countRooms_17 rfl (lv_at hl 0 rfl) ?_
    refine r_getN (v := .int ((rv k_2) 0)) hE hx hb hts hown hK hP fn_X5_77 (3 + k_2) (st_at hk_2) rfl dX5_countRooms_18 ?_
    exact fin_i hx hb hr hlocks hK hP hD hS eS dX5_countRooms_21
def lp_X5_openDoors_13 (g : Nat → Int32) (u : Nat → Int32) (rv : Nat → Nat → Int32) : Nat → Nat → Int32 → Int32
  | 0, i, t => t
  | d + 1, i, t => ((fun (x_1 : Int32) => (lp_X5_openDoors_13 g u rv d (i + 1) x_1)) (if (sX2_isThere (rv i)) = 0 then t else (if ((rv i) 5) = 0 then t else (t + 1))))
def sX5_openDoors (g : Nat → Int32) (u : Nat → Int32) (rv : Nat → Nat → Int32) : Int32 :=
  (lp_X5_openDoors_13 g u rv 6 0 0)
set_option maxRecDepth 100000 in
set_option maxHeartbeats 4000000 in
theorem c_X5_openDoors (l : Launch) (G : va_G) (kk : Nat → ClassId) (a : Nat → Nat) (g : Nat → Int32) (u : Nat → Int32) (rv : Nat → Nat → Int32)  : CC l yX5_openDoors cX5_openDoors 6 (some .int) (rmO 1 20) [.ref (a 0)] G kk (stW kk a g u rv) (QI G kk (stW kk a g u rv) (sX5_openDoors g u rv)) := by
  refine cc_start (by decide +kernel) (Nat.le_of_ble_eq_true rfl) ?_
  intro p e s m below meth c A ls hx hb hr hml hown hts hlocks hA hE hK hP hD hS hl
  have hown : s.vm.findClass RX5 = some m.cls := hown
  have hl : lv_has ls 6 [(0, .ref (a 0))] := hl
  have eS : sX5_openDoors g u rv = sX5_openDoors g u rv := rfl
  refine lv_iconst (v := 0) hx hb dX5_openDoors_0 (by decide) ?_
  refine lv_istore_n (lv' := [(1, .int 0), (0, .ref (a 0))]) hx hb dX5_openDoors_1 rfl hl (by decide) rfl (fun ls hl => ?_)
  refine lv_aload_n hx hb dX5_openDoors_2 rfl (lv_at hl 1 rfl) ?_
  refine r_get (v := .ref (a 2)) hx hb hts hown hK hP fl_X5_20 0 rfl rfl dX5_openDoors_3 ?_
  refine lv_astore_n (lv' := [(2, .ref (a 2)), (1, .int 0), (0, .ref (a 0))]) hx hb dX5_openDoors_6 rfl hl (by decide) rfl (fun ls hl => ?_)
  refine lv_aload_n hx hb dX5_openDoors_7 rfl (lv_at hl 0 rfl) ?_
  refine r_alen (t0 := 3) hx hb hK hP 2 rfl rfl dX5_openDoors_8 ?_
  refine lv_istore_n (lv' := [(3, .int (nI 6)), (2, .ref (a 2)), (1, .int 0), (0, .ref (a 0))]) hx hb dX5_openDoors_9 rfl hl (by decide) rfl (fun ls hl => ?_)
  refine lv_iconst (v := 0) hx hb dX5_openDoors_10 (by decide) ?_
  refine lv_istore (lv' := [(4, .int 0), (3, .int (nI 6)), (2, .ref (a 2)), (1, .int 0), (0, .ref (a 0))]) hx hb dX5_openDoors_11 hl (by decide) rfl (fun ls hl => ?_)
  have L_2 : ∀ (d : Nat) (i : Nat) (t : Int32) (hd : i + d = 6) (eS : sX5_openDoors g u rv = lp_X5_openDoors_13 g u rv d i t) (H : Heap) (locs : List Loc) (ls : Array Slot) (hP : va_P G vwCl (stW kk a g u rv) H) (hD : va_D A (stW kk a g u rv)) (hS : va_S A s.heap H locs) (hl : lv_has ls 6 [(3, .int (nI 6)), (2, .ref (a 2)), (0, .ref (a 0)), (4, .int (nI i)), (1, .int t)]), GO p l e (rmO 1 20) s m ([.ref (a 0)] : List Value).toArray below meth c A (QI G kk (stW kk a g u rv) (sX5_openDoors g u rv)) H locs (F0 m 13 ls []) := by
    intro d
    induction d with
    | zero =>
      intro i t hd eS H locs ls hP hD hS hl
      refine lv_iload hx hb dX5_openDoors_13 (lv_at hl 3 rfl) ?_
      refine lv_iload_n hx hb dX5_openDoors_15 rfl (lv_at hl 0 rfl) ?_
      refine lv_icmp_ge (tgt := 50) hx hb dX5_openDoors_16 (by decide) (fun c_16 => ?_) (fun c_16 => absurd (nI_le (by omega) (by omega)) c_16)
      refine lv_iload_n hx hb dX5_openDoors_50 rfl (lv_at hl 4 rfl) ?_
      exact fin_i hx hb hr hlocks hK hP hD hS eS dX5_openDoors_51
    | succ d ih =>
      intro i t hd eS H locs ls hP hD hS hl
      have hi : i < 6 := by omega
      refine lv_iload hx hb dX5_openDoors_13 (lv_at hl 3 rfl) ?_
      refine lv_iload_n hx hb dX5_openDoors_15 rfl (lv_at hl 0 rfl) ?_
      refine lv_icmp_ge (tgt := 50) hx hb dX5_openDoors_16 (by decide) (fun c_16 => absurd c_16 (nI_ge (by omega) (by decide))) (fun c_16 => ?_)
      refine lv_aload_n hx hb dX5_openDoors_19 rfl (lv_at hl 1 rfl) ?_
      refine lv_iload hx hb dX5_openDoors_20 (lv_at hl 3 rfl) ?_
      refine r_aald hx hb hK hP 2 3 rfl rfl i (a (3 + i)) rfl (by omega) (by decide) rfl dX5_openDoors_22 ?_
      refine lv_astore (lv' := [(5, .ref (a (3 + i))), (3, .int (nI 6)), (2, .ref (a 2)), (0, .ref (a 0)), (4, .int (nI i)), (1, .int t)]) hx hb dX5_openDoors_23 hl (by decide) rfl (fun ls hl => ?_)
      refine lv_aload hx hb dX5_openDoors_25 (lv_at hl 0 rfl) ?_
      refine k_goI (k_runV (rest := []) (As := []) hx hb hml hown hts hK hP hD hS hA hE hl.1 (c_X2_isThere l G kk (a (3 + i)) (rv i) ) vl_X5_69 rfl rfl rfl ⟨Nat.le_of_ble_eq_true rfl, Nat.le_of_ble_eq_true rfl, rfl, rfl⟩ [3 + i] (nd1 _) (map1 (st_at hi)) ⟨Nat.zero_le _, Nat.zero_le _⟩ rfl (Nat.le_of_ble_eq_true rfl) dX5_openDoors_27) hP hD hS hA [3 + i] (map1 (st_at hi)) ads1 (fun H locs hP hD hS => ?_)
      replace hP : va_P G vwCl (stW kk a g u rv) H := vP_eq (st_same (g := g) (u := u) hi) hP
      replace hD : va_D A (stW kk a g u rv) := vD_eq (st_same (g := g) (u := u) hi) hD
      have J_3 : ∀ (x_1 : Int32) (ex_1 : x_1 = (if (sX2_isThere (rv i)) = 0 then t else (if ((rv i) 5) = 0 then t else (t + 1)))) (eS : sX5_openDoors g u rv = (fun (x_1 : Int32) => (lp_X5_openDoors_13 g u rv d (i + 1) x_1)) x_1) (H : Heap) (locs : List Loc) (ls : Array Slot) (hP : va_P G vwCl (stW kk a g u rv) H) (hD : va_D A (stW kk a g u rv)) (hS : va_S A s.heap H locs) (hl : lv_has ls 6 [(5, .ref (a (3 + i))), (3, .int (nI 6)), (2, .ref (a 2)), (0, .ref (a 0)), (4, .int (nI i)), (1, .int x_1)]), GO p l e (rmO 1 20) s m ([.ref (a 0)] : List Value).toArray below meth c A (QI G kk (stW kk a g u rv) (sX5_openDoors g u rv)) H locs (F0 m 44 ls []) := by
        intro x_1 ex_1 eS H locs ls hP hD hS hl
        refine lv_iinc (v := (nI (i + 1))) (lv' := [(4, .int (nI (i + 1))), (5, .ref (a (3 + i))), (3, .int (nI 6)), (2, .ref (a 2)), (0, .ref (a 0)), (1, .int x_1)]) hx hb dX5_openDoors_44 hl (k := 4) rfl (nI_add i 1) (by decide) rfl (fun ls hl => ?_)
        refine lv_goto (tgt := 13) hx hb dX5_openDoors_47 (by decide) ?_
        exact ih (i + 1) x_1 (by omega) eS _ _ ls hP hD hS (lv_sub hl [2, 3, 4, 0, 5] rfl)
      refine lv_if_eq (tgt := 44) hx hb dX5_openDoors_30 (by decide) (fun c_30 => ?_) (fun c_30 => ?_)
      · exact J_3 t (if_pos c_30).symm (eS.trans (cg1 ((fun (x_1 : Int32) => (lp_X5_openDoors_13 g u rv d (i + 1) x_1))) (if_pos c_30))) _ _ ls hP hD hS (lv_sub hl [0, 1, 2, 3, 4, 5] rfl)
      · refine lv_aload hx hb dX5_openDoors_33 (lv_at hl 0 rfl) ?_
        refine r_getN (v := .int ((rv i) 5)) hE hx hb hts hown hK hP fn_X5_80 (3 + i) (st_at hi) rfl dX5_openDoors_35 ?_
        refine lv_if_eq (tgt := 44) hx hb dX5_openDoors_38 (by decide) (fun c_38 => ?_) (fun c_38 => ?_)
        · exact J_3 t ((if_neg c_30).trans (if_pos c_38)).symm (eS.trans (cg1 ((fun (x_1 : Int32) => (lp_X5_openDoors_13 g u rv d (i + 1) x_1))) ((if_neg c_30).trans (if_pos c_38)))) _ _ ls hP hD hS (lv_sub hl [0, 1, 2, 3, 4, 5] rfl)
        · refine lv_iinc (v := (t + 1)) (lv' := [(1, .int (t + 1)), (5, .ref (a (3 + i))), (3, .int (nI 6)), (2, .ref (a 2)), (0, .ref (a 0)), (4, .int (nI i))]) hx hb dX5_openDoors_41 hl (k := 5) rfl rfl (by decide) rfl (fun ls hl => ?_)
          exact J_3 (t + 1) ((if_neg c_30).trans (if_neg c_38)).symm (eS.trans (cg1 ((fun (x_1 : Int32) => (lp_X5_openDoors_13 g u rv d (i + 1) x_1))) ((if_neg c_30).trans (if_neg c_38)))) _ _ ls hP hD hS (lv_sub hl [1, 2, 3, 4, 5, 0] rfl)
  exact L_2 6 0 0 rfl eS _ _ ls hP hD hS (lv_sub hl [1, 2, 4, 0, 3] rfl)
def lp_X5_warmestRoom_13 (g : Nat → Int32) (u : Nat → Int32) (rv : Nat → Nat → Int32) : Nat → Nat → Option Nat → Int32
  | 0, i, w => (oe w (-1) (fun k_1 => ((rv k_1) 0)))
  | d + 1, i, w => (if (sX2_isThere (rv i)) = 0 then (lp_X5_warmestRoom_13 g u rv d (i + 1) w) else (oe w (lp_X5_warmestRoom_13 g u rv d (i + 1) (some i)) (fun k_2 => (if (sX2_warmth (rv i)) ≤ (sX2_warmth (rv k_2)) then (lp_X5_warmestRoom_13 g u rv d (i + 1) (some k_2)) else (lp_X5_warmestRoom_13 g u rv d (i + 1) (some i))))))
def sX5_warmestRoom (g : Nat → Int32) (u : Nat → Int32) (rv : Nat → Nat → Int32) : Int32 :=
  (lp_X5_warmestRoom_13 g u rv 6 0 none)
set_option maxRecDepth 100000 in
set_option maxHeartbeats 4000000 in
theorem c_X5_warmestRoom (l : Launch) (G : va_G) (kk : Nat → ClassId) (a : Nat → Nat) (g : Nat → Int32) (u : Nat → Int32) (rv : Nat → Nat → Int32)  : CC l yX5_warmestRoom cX5_warmestRoom 6 (some .int) (rmO 1 20) [.ref (a 0)] G kk (stW kk a g u rv) (QI G kk (stW kk a g u rv) (sX5_warmestRoom g u rv)) := by
  refine cc_start (by decide +kernel) (Nat.le_of_ble_eq_true rfl) ?_
  intro p e s m below meth c A ls hx hb hr hml hown hts hlocks hA hE hK hP hD hS hl
  have hown : s.vm.findClass RX5 = some m.cls := hown
  have hl : lv_has ls 6 [(0, .ref (a 0))] := hl
  have eS : sX5_warmestRoom g u rv = sX5_warmestRoom g u rv := rfl
  refine lv_null hx hb dX5_warmestRoom_0 ?_
  refine lv_astore_nN (lv' := [(1, .null), (0, .ref (a 0))]) hx hb dX5_warmestRoom_1 rfl hl (by decide) rfl (fun ls hl => ?_)
  refine lv_aload_n hx hb dX5_warmestRoom_2 rfl (lv_at hl 1 rfl) ?_
  refine r_get (v := .ref (a 2)) hx hb hts hown hK hP fl_X5_20 0 rfl rfl dX5_warmestRoom_3 ?_
  refine lv_astore_n (lv' := [(2, .ref (a 2)), (1, .null), (0, .ref (a 0))]) hx hb dX5_warmestRoom_6 rfl hl (by decide) rfl (fun ls hl => ?_)
  refine lv_aload_n hx hb dX5_warmestRoom_7 rfl (lv_at hl 0 rfl) ?_
  refine r_alen (t0 := 3) hx hb hK hP 2 rfl rfl dX5_warmestRoom_8 ?_
  refine lv_istore_n (lv' := [(3, .int (nI 6)), (2, .ref (a 2)), (1, .null), (0, .ref (a 0))]) hx hb dX5_warmestRoom_9 rfl hl (by decide) rfl (fun ls hl => ?_)
  refine lv_iconst (v := 0) hx hb dX5_warmestRoom_10 (by decide) ?_
  refine lv_istore (lv' := [(4, .int 0), (3, .int (nI 6)), (2, .ref (a 2)), (1, .null), (0, .ref (a 0))]) hx hb dX5_warmestRoom_11 hl (by decide) rfl (fun ls hl => ?_)
  have L_3 : ∀ (d : Nat) (i : Nat) (w : Option Nat) (hd : i + d = 6) (hw : ∀ k, w = some k → k < 6) (eS : sX5_warmestRoom g u rv = lp_X5_warmestRoom_13 g u rv d i w) (H : Heap) (locs : List Loc) (ls : Array Slot) (hP : va_P G vwCl (stW kk a g u rv) H) (hD : va_D A (stW kk a g u rv)) (hS : va_S A s.heap H locs) (hl : lv_has ls 6 [(3, .int (nI 6)), (2, .ref (a 2)), (0, .ref (a 0)), (4, .int (nI i)), (1, va_rf (Option.map (fun k => a (3 + k)) w))]), GO p l e (rmO 1 20) s m ([.ref (a 0)] : List Value).toArray below meth c A (QI G kk (stW kk a g u rv) (sX5_warmestRoom g u rv)) H locs (F0 m 13 ls []) := by
    intro d
    induction d with
    | zero =>
      intro i w hd hw eS H locs ls hP hD hS hl
      refine lv_iload hx hb dX5_warmestRoom_13 (lv_at hl 3 rfl) ?_
      refine lv_iload_n hx hb dX5_warmestRoom_15 rfl (lv_at hl 0 rfl) ?_
      refine lv_icmp_ge (tgt := 58) hx hb dX5_warmestRoom_16 (by decide) (fun c_16 => ?_) (fun c_16 => absurd (nI_le (by omega) (by omega)) c_16)
      rcases opt_or w with rfl | ⟨k_1, rfl⟩
      · have hl : lv_has ls 6 [(3, .int (nI 6)), (2, .ref (a 2)), (0, .ref (a 0)), (4, .int (nI i)), (1, .null)] := hl
        have eS := eS.trans (oe_n rfl)
        refine lv_aload_nN hx hb dX5_warmestRoom_58 rfl (lv_at hl 4 rfl) ?_
        refine lv_ifnonnullN hx hb dX5_warmestRoom_59 ?_
        refine lv_iconst (v := (-1)) hx hb dX5_warmestRoom_62 (by decide) ?_
        refine lv_goto (tgt := 70) hx hb dX5_warmestRoom_63 (by decide) ?_
        exact fin_i hx hb hr hlocks hK hP hD hS eS dX5_warmestRoom_70
      · have hl : lv_has ls 6 [(3, .int (nI 6)), (2, .ref (a 2)), (0, .ref (a 0)), (4, .int (nI i)), (1, .ref (a (3 + k_1)))] := hl
        have hk_1 := hw k_1 rfl
        have eS := eS.trans (oe_s rfl)
        refine lv_aload_n hx hb dX5_warmestRoom_58 rfl (lv_at hl 4 rfl) ?_
        refine lv_ifnonnull (tgt := 66) hx hb dX5_warmestRoom_59 (by decide) ?_
        refine lv_aload_n hx hb dX5_warmestRoom_66 rfl (lv_at hl 4 rfl) ?_
        refine r_getN (v := .int ((rv k_1) 0)) hE hx hb hts hown hK hP fn_X5_77 (3 + k_1) (st_at hk_1) rfl dX5_warmestRoom_67 ?_
        exact fin_i hx hb hr hlocks hK hP hD hS eS dX5_warmestRoom_70
    | succ d ih =>
      intro i w hd hw eS H locs ls hP hD hS hl
      have hi : i < 6 := by omega
      refine lv_iload hx hb dX5_warmestRoom_13 (lv_at hl 3 rfl) ?_
      refine lv_iload_n hx hb dX5_warmestRoom_15 rfl (lv_at hl 0 rfl) ?_
      refine lv_icmp_ge (tgt := 58) hx hb dX5_warmestRoom_16 (by decide) (fun c_16 => absurd c_16 (nI_ge (by omega) (by decide))) (fun c_16 => ?_)
      refine lv_aload_n hx hb dX5_warmestRoom_19 rfl (lv_at hl 1 rfl) ?_
      refine lv_iload hx hb dX5_warmestRoom_20 (lv_at hl 3 rfl) ?_
      refine r_aald hx hb hK hP 2 3 rfl rfl i (a (3 + i)) rfl (by omega) (by decide) rfl dX5_warmestRoom_22 ?_
      refine lv_astore (lv' := [(5, .ref (a (3 + i))), (3, .int (nI 6)), (2, .ref (a 2)), (0, .ref (a 0)), (4, .int (nI i)), (1, va_rf (Option.map (fun k => a (3 + k)) w))]) hx hb dX5_warmestRoom_23 hl (by decide) rfl (fun ls hl => ?_)
      refine lv_aload hx hb dX5_warmestRoom_25 (lv_at hl 0 rfl) ?_
      refine k_goI (k_runV (rest := []) (As := []) hx hb hml hown hts hK hP hD hS hA hE hl.1 (c_X2_isThere l G kk (a (3 + i)) (rv i) ) vl_X5_69 rfl rfl rfl ⟨Nat.le_of_ble_eq_true rfl, Nat.le_of_ble_eq_true rfl, rfl, rfl⟩ [3 + i] (nd1 _) (map1 (st_at hi)) ⟨Nat.zero_le _, Nat.zero_le _⟩ rfl (Nat.le_of_ble_eq_true rfl) dX5_warmestRoom_27) hP hD hS hA [3 + i] (map1 (st_at hi)) ads1 (fun H locs hP hD hS => ?_)
      replace hP : va_P G vwCl (stW kk a g u rv) H := vP_eq (st_same (g := g) (u := u) hi) hP
      replace hD : va_D A (stW kk a g u rv) := vD_eq (st_same (g := g) (u := u) hi) hD
      refine lv_if_eq (tgt := 52) hx hb dX5_warmestRoom_30 (by decide) (fun c_30 => ?_) (fun c_30 => ?_)
      · have eS := eS.trans (if_pos c_30)
        refine lv_iinc (v := (nI (i + 1))) (lv' := [(4, .int (nI (i + 1))), (5, .ref (a (3 + i))), (3, .int (nI 6)), (2, .ref (a 2)), (0, .ref (a 0)), (1, va_rf (Option.map (fun k => a (3 + k)) w))]) hx hb dX5_warmestRoom_52 hl (k := 4) rfl (nI_add i 1) (by decide) rfl (fun ls hl => ?_)
        refine lv_goto (tgt := 13) hx hb dX5_warmestRoom_55 (by decide) ?_
        exact ih (i + 1) w (by omega) (by first | exact hw | (intro k h; cases h; exact hi)) eS _ _ ls hP hD hS (lv_sub hl [2, 3, 4, 0, 5] rfl)
      · have eS := eS.trans (if_neg c_30)
        rcases opt_or w with rfl | ⟨k_2, rfl⟩
        · have hl : lv_has ls 6 [(5, .ref (a (3 + i))), (3, .int (nI 6)), (2, .ref (a 2)), (0, .ref (a 0)), (4, .int (nI i)), (1, .null)] := hl
          have eS := eS.trans (oe_n rfl)
          refine lv_aload_nN hx hb dX5_warmestRoom_33 rfl (lv_at hl 5 rfl) ?_
          refine lv_ifnullN (tgt := 49) hx hb dX5_warmestRoom_34 (by decide) ?_
          refine lv_aload hx hb dX5_warmestRoom_49 (lv_at hl 0 rfl) ?_
          refine lv_astore_n (lv' := [(1, .ref (a (3 + i))), (5, .ref (a (3 + i))), (3, .int (nI 6)), (2, .ref (a 2)), (0, .ref (a 0)), (4, .int (nI i))]) hx hb dX5_warmestRoom_51 rfl hl (by decide) rfl (fun ls hl => ?_)
          refine lv_iinc (v := (nI (i + 1))) (lv' := [(4, .int (nI (i + 1))), (1, .ref (a (3 + i))), (5, .ref (a (3 + i))), (3, .int (nI 6)), (2, .ref (a 2)), (0, .ref (a 0))]) hx hb dX5_warmestRoom_52 hl (k := 5) rfl (nI_add i 1) (by decide) rfl (fun ls hl => ?_)
          refine lv_goto (tgt := 13) hx hb dX5_warmestRoom_55 (by decide) ?_
          exact ih (i + 1) (some i) (by omega) (by first | exact hw | (intro k h; cases h; exact hi)) eS _ _ ls hP hD hS (lv_sub hl [3, 4, 5, 0, 1] rfl)
        · have hl : lv_has ls 6 [(5, .ref (a (3 + i))), (3, .int (nI 6)), (2, .ref (a 2)), (0, .ref (a 0)), (4, .int (nI i)), (1, .ref (a (3 + k_2)))] := hl
          have hk_2 := hw k_2 rfl
          have eS := eS.trans (oe_s rfl)
          refine lv_aload_n hx hb dX5_warmestRoom_33 rfl (lv_at hl 5 rfl) ?_
          refine lv_ifnull hx hb dX5_warmestRoom_34 ?_
          refine lv_aload hx hb dX5_warmestRoom_37 (lv_at hl 0 rfl) ?_
          refine k_goI (k_runV (rest := []) (As := []) hx hb hml hown hts hK hP hD hS hA hE hl.1 (c_X2_warmth l G kk (a (3 + i)) (rv i) ) vl_X5_84 rfl rfl rfl ⟨Nat.le_of_ble_eq_true rfl, Nat.le_of_ble_eq_true rfl, rfl, rfl⟩ [3 + i] (nd1 _) (map1 (st_at hi)) ⟨Nat.zero_le _, Nat.zero_le _⟩ rfl (Nat.le_of_ble_eq_true rfl) dX5_warmestRoom_39) hP hD hS hA [3 + i] (map1 (st_at hi)) ads1 (fun H locs hP hD hS => ?_)
          replace hP : va_P G vwCl (stW kk a g u rv) H := vP_eq (st_same (g := g) (u := u) hi) hP
          replace hD : va_D A (stW kk a g u rv) := vD_eq (st_same (g := g) (u := u) hi) hD
          refine lv_aload_n hx hb dX5_warmestRoom_42 rfl (lv_at hl 5 rfl) ?_
          refine k_goI (k_runV (rest := [.int (sX2_warmth (rv i))]) (As := []) hx hb hml hown hts hK hP hD hS hA hE hl.1 (c_X2_warmth l G kk (a (3 + k_2)) (rv k_2) ) vl_X5_84 rfl rfl rfl ⟨Nat.le_of_ble_eq_true rfl, Nat.le_of_ble_eq_true rfl, rfl, rfl⟩ [3 + k_2] (nd1 _) (map1 (st_at hk_2)) ⟨Nat.zero_le _, Nat.zero_le _⟩ rfl (Nat.le_of_ble_eq_true rfl) dX5_warmestRoom_43) hP hD hS hA [3 + k_2] (map1 (st_at hk_2)) ads1 (fun H locs hP hD hS => ?_)
          replace hP : va_P G vwCl (stW kk a g u rv) H := vP_eq (st_same (g := g) (u := u) hk_2) hP
          replace hD : va_D A (stW kk a g u rv) := vD_eq (st_same (g := g) (u := u) hk_2) hD
          refine lv_icmp_le (tgt := 52) hx hb dX5_warmestRoom_46 (by decide) (fun c_46 => ?_) (fun c_46 => ?_)
          · have eS := eS.trans (if_pos c_46)
            refine lv_iinc (v := (nI (i + 1))) (lv' := [(4, .int (nI (i + 1))), (5, .ref (a (3 + i))), (3, .int (nI 6)), (2, .ref (a 2)), (0, .ref (a 0)), (1, .ref (a (3 + k_2)))]) hx hb dX5_warmestRoom_52 hl (k := 4) rfl (nI_add i 1) (by decide) rfl (fun ls hl => ?_)
            refine lv_goto (tgt := 13) hx hb dX5_warmestRoom_55 (by decide) ?_
            exact ih (i + 1) (some k_2) (by omega) (by first | exact hw | (intro k h; cases h; exact hi)) eS _ _ ls hP hD hS (lv_sub hl [2, 3, 4, 0, 5] rfl)
          · have eS := eS.trans (if_neg c_46)
            refine lv_aload hx hb dX5_warmestRoom_49 (lv_at hl 0 rfl) ?_
            refine lv_astore_n (lv' := [(1, .ref (a (3 + i))), (5, .ref (a (3 + i))), (3, .int (nI 6)), (2, .ref (a 2)), (0, .ref (a 0)), (4, .int (nI i))]) hx hb dX5_warmestRoom_51 rfl hl (by decide) rfl (fun ls hl => ?_)
            refine lv_iinc (v := (nI (i + 1))) (lv' := [(4, .int (nI (i + 1))), (1, .ref (a (3 + i))), (5, .ref (a (3 + i))), (3, .int (nI 6)), (2, .ref (a 2)), (0, .ref (a 0))]) hx hb dX5_warmestRoom_52 hl (k := 5) rfl (nI_add i 1) (by decide) rfl (fun ls hl => ?_)
            refine lv_goto (tgt := 13) hx hb dX5_warmestRoom_55 (by decide) ?_
            exact ih (i + 1) (some i) (by omega) (by first | exact hw | (intro k h; cases h; exact hi)) eS _ _ ls hP hD hS (lv_sub hl [3, 4, 5, 0, 1] rfl)
  exact L_3 6 0 none rfl (fun k h => by cases h) eS _ _ ls hP hD hS (lv_sub hl [1, 2, 4, 0, 3] rfl)
