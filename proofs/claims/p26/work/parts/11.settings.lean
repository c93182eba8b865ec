def lsI (x : Int32) : Int32 := if x.toNatClampNeg < 3 then 0 else 1
def msI (x : Int32) : Int32 := if x.toNatClampNeg = 0 then 9999 else if x.toNatClampNeg = 1 then 14 else if x.toNatClampNeg = 2 then 99 else if x.toNatClampNeg = 3 then 50 else if x.toNatClampNeg = 4 then 100 else 30
theorem fs_28 : Cond.fieldLinkNest RX3 28 "MeterRooms" "LEAST_SETTING" "[I" "MeterRooms" ∈ NWL := nw_of 576 (by decide +kernel) rfl
theorem fs_34 : Cond.fieldLinkNest RX3 34 "MeterRooms" "MOST_SETTING" "[I" "MeterRooms" ∈ NWL := nw_of 578 (by decide +kernel) rfl
def sX3_isSetting (w : Int32) : Int32 :=
  (if w < 0 then 0 else (if 6 ≤ w then 0 else (if 6 ≤ w then 0 else 1)))
set_option maxRecDepth 100000 in
set_option maxHeartbeats 4000000 in
theorem c_X3_isSetting (l : Launch) (G : va_G) (kk : Nat → ClassId) (w : Int32)  : CC l yX3_isSetting cX3_isSetting 1 (some .boolean) (rmO 0 0) [.int w] G kk ([]) (QI G kk ([]) (sX3_isSetting w)) := by
  refine cc_start (by decide +kernel) (Nat.le_of_ble_eq_true rfl) ?_
  intro p e s m below meth c A ls hx hb hr hml hown hts hlocks hA hE hK hP hD hS hl
  have hown : s.vm.findClass RX3 = some m.cls := hown
  have hl : lv_has ls 1 [(0, .int w)] := hl
  obtain ⟨⟨t1, hz1, hT1⟩, ⟨t2, hz2, hT2⟩, -, -⟩ := hE.2.1
  have eS : sX3_isSetting w = sX3_isSetting w := rfl
  refine lv_iload_n hx hb dX3_isSetting_0 rfl (lv_at hl 0 rfl) ?_
  refine lv_if_lt (tgt := 24) hx hb dX3_isSetting_1 (by decide) (fun c_1 => ?_) (fun c_1 => ?_)
  · have eS := eS.trans (if_pos c_1)
    refine lv_iconst (v := 0) hx hb dX3_isSetting_24 (by decide) ?_
    exact fin_z hx hb hr hlocks hK hP hD hS eS rfl dX3_isSetting_25
  · have eS := eS.trans (if_neg c_1)
    refine lv_iload_n hx hb dX3_isSetting_4 rfl (lv_at hl 0 rfl) ?_
    refine va_getsN hx hb hz1 hS hown (hE.1.use fs_28 _) (fun _ h9 => h9) dX3_isSetting_5 ?_
    refine va_tlen (v := 6) hx hb hT1 hS (by decide) dX3_isSetting_8 ?_
    refine lv_icmp_ge (tgt := 24) hx hb dX3_isSetting_9 (by decide) (fun c_9 => ?_) (fun c_9 => ?_)
    · have eS := eS.trans (if_pos c_9)
      refine lv_iconst (v := 0) hx hb dX3_isSetting_24 (by decide) ?_
      exact fin_z hx hb hr hlocks hK hP hD hS eS rfl dX3_isSetting_25
    · have eS := eS.trans (if_neg c_9)
      refine lv_iload_n hx hb dX3_isSetting_12 rfl (lv_at hl 0 rfl) ?_
      refine va_getsN hx hb hz2 hS hown (hE.1.use fs_34 _) (fun _ h9 => h9) dX3_isSetting_13 ?_
      refine va_tlen (v := 6) hx hb hT2 hS (by decide) dX3_isSetting_16 ?_
      refine lv_icmp_ge (tgt := 24) hx hb dX3_isSetting_17 (by decide) (fun c_17 => ?_) (fun c_17 => ?_)
      · have eS := eS.trans (if_pos c_17)
        refine lv_iconst (v := 0) hx hb dX3_isSetting_24 (by decide) ?_
        exact fin_z hx hb hr hlocks hK hP hD hS eS rfl dX3_isSetting_25
      · have eS := eS.trans (if_neg c_17)
        refine lv_iconst (v := 1) hx hb dX3_isSetting_20 (by decide) ?_
        refine lv_goto (tgt := 25) hx hb dX3_isSetting_21 (by decide) ?_
        exact fin_z hx hb hr hlocks hK hP hD hS eS rfl dX3_isSetting_25
theorem isSet_in {w : Int32} (h : ¬ sX3_isSetting w = 0) : vp_in w 6 := by
  unfold sX3_isSetting at h
  by_cases h1 : w < 0
  · rw [if_pos h1] at h; exact absurd rfl h
  · rw [if_neg h1] at h
    by_cases h2 : (6 : Int32) ≤ w
    · rw [if_pos h2] at h; exact absurd rfl h
    · have h3 := tc_l (n := 6) h1 h2 (by decide)
      rintro (q | q)
      · exact h1 q
      · omega
def sX3_isAllowed (w : Int32) (v : Int32) : Int32 :=
  (if (sX3_isSetting w) = 0 then 0 else (if v < (lsI w) then 0 else (if (msI w) < v then 0 else 1)))
set_option maxRecDepth 100000 in
set_option maxHeartbeats 4000000 in
theorem c_X3_isAllowed (l : Launch) (G : va_G) (kk : Nat → ClassId) (w : Int32) (v : Int32)  : CC l yX3_isAllowed cX3_isAllowed 2 (some .boolean) (rmO 1 20) [.int w, .int v] G kk ([]) (QI G kk ([]) (sX3_isAllowed w v)) := by
  refine cc_start (by decide +kernel) (Nat.le_of_ble_eq_true rfl) ?_
  intro p e s m below meth c A ls hx hb hr hml hown hts hlocks hA hE hK hP hD hS hl
  have hown : s.vm.findClass RX3 = some m.cls := hown
  have hl : lv_has ls 2 [(0, .int w), (1, .int v)] := hl
  obtain ⟨⟨t1, hz1, hT1⟩, ⟨t2, hz2, hT2⟩, -, -⟩ := hE.2.1
  have eS : sX3_isAllowed w v = sX3_isAllowed w v := rfl
  refine lv_iload_n hx hb dX3_isAllowed_0 rfl (lv_at hl 0 rfl) ?_
  refine k_goI (k_runS (rest := []) (As := [.int w]) hx hb hml hown hts hK hP hD hS hA hE hl.1 (c_X3_isSetting l G kk w ) sl_X3_37 ⟨Nat.le_of_ble_eq_true rfl, Nat.le_of_ble_eq_true rfl, rfl, rfl⟩ [] rfl rfl ⟨Nat.zero_le _, Nat.zero_le _⟩ rfl (Nat.le_of_ble_eq_true rfl) dX3_isAllowed_1) hP hD hS hA [] rfl ads0 (fun H locs hP hD hS => ?_)
  replace hP : va_P G vwCl ([]) H := hP
  replace hD : va_D A ([]) := hD
  refine lv_if_eq (tgt := 29) hx hb dX3_isAllowed_4 (by decide) (fun c_4 => ?_) (fun c_4 => ?_)
  · have eS := eS.trans (if_pos c_4)
    refine lv_iconst (v := 0) hx hb dX3_isAllowed_29 (by decide) ?_
    exact fin_z hx hb hr hlocks hK hP hD hS eS rfl dX3_isAllowed_30
  · have eS := eS.trans (if_neg c_4)
    refine lv_iload_n hx hb dX3_isAllowed_7 rfl (lv_at hl 1 rfl) ?_
    refine va_getsN hx hb hz1 hS hown (hE.1.use fs_28 _) (fun _ h9 => h9) dX3_isAllowed_8 ?_
    refine lv_iload_n hx hb dX3_isAllowed_11 rfl (lv_at hl 0 rfl) ?_
    refine va_ti (v := .int (lsI w)) hx hb hT1 hS (isSet_in c_4) rfl dX3_isAllowed_12 ?_
    refine lv_icmp_lt (tgt := 29) hx hb dX3_isAllowed_13 (by decide) (fun c_13 => ?_) (fun c_13 => ?_)
    · have eS := eS.trans (if_pos c_13)
      refine lv_iconst (v := 0) hx hb dX3_isAllowed_29 (by decide) ?_
      exact fin_z hx hb hr hlocks hK hP hD hS eS rfl dX3_isAllowed_30
    · have eS := eS.trans (if_neg c_13)
      refine lv_iload_n hx hb dX3_isAllowed_16 rfl (lv_at hl 1 rfl) ?_
      refine va_getsN hx hb hz2 hS hown (hE.1.use fs_34 _) (fun _ h9 => h9) dX3_isAllowed_17 ?_
      refine lv_iload_n hx hb dX3_isAllowed_20 rfl (lv_at hl 0 rfl) ?_
      refine va_ti (v := .int (msI w)) hx hb hT2 hS (isSet_in c_4) rfl dX3_isAllowed_21 ?_
      refine lv_icmp_gt (tgt := 29) hx hb dX3_isAllowed_22 (by decide) (fun c_22 => ?_) (fun c_22 => ?_)
      · have eS := eS.trans (if_pos c_22)
        refine lv_iconst (v := 0) hx hb dX3_isAllowed_29 (by decide) ?_
        exact fin_z hx hb hr hlocks hK hP hD hS eS rfl dX3_isAllowed_30
      · have eS := eS.trans (if_neg c_22)
        refine lv_iconst (v := 1) hx hb dX3_isAllowed_25 (by decide) ?_
        refine lv_goto (tgt := 30) hx hb dX3_isAllowed_26 (by decide) ?_
        exact fin_z hx hb hr hlocks hK hP hD hS eS rfl dX3_isAllowed_30
def sX3_value (u : Nat → Int32) (w : Int32) : Int32 :=
  (if w = 0 then (u 0) else (if w = 1 then (u 1) else (if w = 2 then (u 2) else (if w = 3 then (u 3) else (if w = 4 then (u 4) else (u 5))))))
set_option maxRecDepth 100000 in
set_option maxHeartbeats 4000000 in
theorem c_X3_value (l : Launch) (G : va_G) (kk : Nat → ClassId) (h : Nat) (u : Nat → Int32) (w : Int32)  : CC l yX3_value cX3_value 2 (some .int) (rmO 0 0) [.ref h, .int w] G kk ([(h, .inr (3, seF u))]) (QI G kk ([(h, .inr (3, seF u))]) (sX3_value u w)) := by
  refine cc_start (by decide +kernel) (Nat.le_of_ble_eq_true rfl) ?_
  intro p e s m below meth c A ls hx hb hr hml hown hts hlocks hA hE hK hP hD hS hl
  have hown : s.vm.findClass RX3 = some m.cls := hown
  have hl : lv_has ls 2 [(0, .ref h), (1, .int w)] := hl
  have eS : sX3_value u w = sX3_value u w := rfl
  refine lv_iload_n hx hb dX3_value_0 rfl (lv_at hl 1 rfl) ?_
  refine (Decidable.em (w = 0)).elim (fun c_1_0 => ?_) (fun c_1_0 => ?_)
  · have eS := eS.trans (if_pos c_1_0)
    refine lv_tableIn (tgt := 36) hx hb dX3_value_1 (by rw [c_1_0]; decide) (by rw [c_1_0]; decide) (by rw [c_1_0]; rfl) (by decide) ?_
    refine lv_aload_n hx hb dX3_value_36 rfl (lv_at hl 0 rfl) ?_
    refine r_get (v := .int (u 0)) hx hb hts hown hK hP fl_X3_7 0 rfl rfl dX3_value_37 ?_
    exact fin_i hx hb hr hlocks hK hP hD hS eS dX3_value_40
  have eS := eS.trans (if_neg c_1_0)
  refine (Decidable.em (w = 1)).elim (fun c_1_1 => ?_) (fun c_1_1 => ?_)
  · have eS := eS.trans (if_pos c_1_1)
    refine lv_tableIn (tgt := 41) hx hb dX3_value_1 (by rw [c_1_1]; decide) (by rw [c_1_1]; decide) (by rw [c_1_1]; rfl) (by decide) ?_
    refine lv_aload_n hx hb dX3_value_41 rfl (lv_at hl 0 rfl) ?_
    refine r_get (v := .int (u 1)) hx hb hts hown hK hP fl_X3_13 0 rfl rfl dX3_value_42 ?_
    exact fin_i hx hb hr hlocks hK hP hD hS eS dX3_value_45
  have eS := eS.trans (if_neg c_1_1)
  refine (Decidable.em (w = 2)).elim (fun c_1_2 => ?_) (fun c_1_2 => ?_)
  · have eS := eS.trans (if_pos c_1_2)
    refine lv_tableIn (tgt := 46) hx hb dX3_value_1 (by rw [c_1_2]; decide) (by rw [c_1_2]; decide) (by rw [c_1_2]; rfl) (by decide) ?_
    refine lv_aload_n hx hb dX3_value_46 rfl (lv_at hl 0 rfl) ?_
    refine r_get (v := .int (u 2)) hx hb hts hown hK hP fl_X3_16 0 rfl rfl dX3_value_47 ?_
    exact fin_i hx hb hr hlocks hK hP hD hS eS dX3_value_50
  have eS := eS.trans (if_neg c_1_2)
  refine (Decidable.em (w = 3)).elim (fun c_1_3 => ?_) (fun c_1_3 => ?_)
  · have eS := eS.trans (if_pos c_1_3)
    refine lv_tableIn (tgt := 51) hx hb dX3_value_1 (by rw [c_1_3]; decide) (by rw [c_1_3]; decide) (by rw [c_1_3]; rfl) (by decide) ?_
    refine lv_aload_n hx hb dX3_value_51 rfl (lv_at hl 0 rfl) ?_
    refine r_get (v := .int (u 3)) hx hb hts hown hK hP fl_X3_19 0 rfl rfl dX3_value_52 ?_
    exact fin_i hx hb hr hlocks hK hP hD hS eS dX3_value_55
  have eS := eS.trans (if_neg c_1_3)
  refine (Decidable.em (w = 4)).elim (fun c_1_4 => ?_) (fun c_1_4 => ?_)
  · have eS := eS.trans (if_pos c_1_4)
    refine lv_tableIn (tgt := 56) hx hb dX3_value_1 (by rw [c_1_4]; decide) (by rw [c_1_4]; decide) (by rw [c_1_4]; rfl) (by decide) ?_
    refine lv_aload_n hx hb dX3_value_56 rfl (lv_at hl 0 rfl) ?_
    refine r_get (v := .int (u 4)) hx hb hts hown hK hP fl_X3_22 0 rfl rfl dX3_value_57 ?_
    exact fin_i hx hb hr hlocks hK hP hD hS eS dX3_value_60
  have eS := eS.trans (if_neg c_1_4)
  refine lv_tableOut (tgt := 61) hx hb dX3_value_1 (by have t0 := lv_neT (a := 0) c_1_0 (by decide); have t1 := lv_neT (a := 1) c_1_1 (by decide); have t2 := lv_neT (a := 2) c_1_2 (by decide); have t3 := lv_neT (a := 3) c_1_3 (by decide); have t4 := lv_neT (a := 4) c_1_4 (by decide); omega) (by decide) ?_
  refine lv_aload_n hx hb dX3_value_61 rfl (lv_at hl 0 rfl) ?_
  refine r_get (v := .int (u 5)) hx hb hts hown hK hP fl_X3_25 0 rfl rfl dX3_value_62 ?_
  exact fin_i hx hb hr hlocks hK hP hD hS eS dX3_value_65
def sX3_change (u : Nat → Int32) (w : Int32) (v : Int32) : (Nat → Int32) :=
  (if w = 0 then (upd u 0 v) else (if w = 1 then (upd u 1 v) else (if w = 2 then (upd u 2 v) else (if w = 3 then (upd u 3 v) else (if w = 4 then (upd u 4 v) else (upd u 5 v))))))
set_option maxRecDepth 100000 in
set_option maxHeartbeats 4000000 in
theorem c_X3_change (l : Launch) (G : va_G) (kk : Nat → ClassId) (h : Nat) (u : Nat → Int32) (w : Int32) (v : Int32)  : CC l yX3_change cX3_change 3 none (rmO 0 0) [.ref h, .int w, .int v] G kk ([(h, .inr (3, seF u))]) (QV G kk ([(h, .inr (3, seF (sX3_change u w v)))])) := by
  refine cc_start (by decide +kernel) (Nat.le_of_ble_eq_true rfl) ?_
  intro p e s m below meth c A ls hx hb hr hml hown hts hlocks hA hE hK hP hD hS hl
  have hown : s.vm.findClass RX3 = some m.cls := hown
  have hl : lv_has ls 3 [(0, .ref h), (1, .int w), (2, .int v)] := hl
  have eS : sX3_change u w v = sX3_change u w v := rfl
  refine lv_iload_n hx hb dX3_change_0 rfl (lv_at hl 1 rfl) ?_
  refine (Decidable.em (w = 0)).elim (fun c_1_0 => ?_) (fun c_1_0 => ?_)
  · have eS := eS.trans (if_pos c_1_0)
    refine lv_tableIn (tgt := 36) hx hb dX3_change_1 (by rw [c_1_0]; decide) (by rw [c_1_0]; decide) (by rw [c_1_0]; rfl) (by decide) ?_
    refine lv_aload_n hx hb dX3_change_36 rfl (lv_at hl 0 rfl) ?_
    refine lv_iload_n hx hb dX3_change_37 rfl (lv_at hl 2 rfl) ?_
    refine r_put hx hb hts hown hK hP hD hS fl_X3_7 fw_3_0 0 rfl rfl rfl (Nat.le_of_ble_eq_true rfl) dX3_change_38 (fun H locs hP hD hS => ?_)
    replace hP : va_P G vwCl ([(h, .inr (3, seF (upd u 0 v)))]) H := hP
    replace hD : va_D A ([(h, .inr (3, seF (upd u 0 v)))]) := hD
    refine lv_goto (tgt := 81) hx hb dX3_change_41 (by decide) ?_
    exact fin_v hx hb hr hlocks hK (vP_eq (congrArg (fun z : (Nat → Int32) => ([(h, .inr (3, seF z))] : va_W)) eS.symm) hP) (vD_eq (congrArg (fun z : (Nat → Int32) => ([(h, .inr (3, seF z))] : va_W)) eS.symm) hD) hS dX3_change_81
  have eS := eS.trans (if_neg c_1_0)
  refine (Decidable.em (w = 1)).elim (fun c_1_1 => ?_) (fun c_1_1 => ?_)
  · have eS := eS.trans (if_pos c_1_1)
    refine lv_tableIn (tgt := 44) hx hb dX3_change_1 (by rw [c_1_1]; decide) (by rw [c_1_1]; decide) (by rw [c_1_1]; rfl) (by decide) ?_
    refine lv_aload_n hx hb dX3_change_44 rfl (lv_at hl 0 rfl) ?_
    refine lv_iload_n hx hb dX3_change_45 rfl (lv_at hl 2 rfl) ?_
    refine r_put hx hb hts hown hK hP hD hS fl_X3_13 fw_3_1 0 rfl rfl rfl (Nat.le_of_ble_eq_true rfl) dX3_change_46 (fun H locs hP hD hS => ?_)
    replace hP : va_P G vwCl ([(h, .inr (3, seF (upd u 1 v)))]) H := hP
    replace hD : va_D A ([(h, .inr (3, seF (upd u 1 v)))]) := hD
    refine lv_goto (tgt := 81) hx hb dX3_change_49 (by decide) ?_
    exact fin_v hx hb hr hlocks hK (vP_eq (congrArg (fun z : (Nat → Int32) => ([(h, .inr (3, seF z))] : va_W)) eS.symm) hP) (vD_eq (congrArg (fun z : (Nat → Int32) => ([(h, .inr (3, seF z))] : va_W)) eS.symm) hD) hS dX3_change_81
  have eS := eS.trans (if_neg c_1_1)
  refine (Decidable.em (w = 2)).elim (fun c_1_2 => ?_) (fun c_1_2 => ?_)
  · have eS := eS.trans (if_pos c_1_2)
    refine lv_tableIn (tgt := 52) hx hb dX3_change_1 (by rw [c_1_2]; decide) (by rw [c_1_2]; decide) (by rw [c_1_2]; rfl) (by decide) ?_
    refine lv_aload_n hx hb dX3_change_52 rfl (lv_at hl 0 rfl) ?_
    refine lv_iload_n hx hb dX3_change_53 rfl (lv_at hl 2 rfl) ?_
    refine r_put hx hb hts hown hK hP hD hS fl_X3_16 fw_3_2 0 rfl rfl rfl (Nat.le_of_ble_eq_true rfl) dX3_change_54 (fun H locs hP hD hS => ?_)
    replace hP : va_P G vwCl ([(h, .inr (3, seF (upd u 2 v)))]) H := hP
    replace hD : va_D A ([(h, .inr (3, seF (upd u 2 v)))]) := hD
    refine lv_goto (tgt := 81) hx hb dX3_change_57 (by decide) ?_
    exact fin_v hx hb hr hlocks hK (vP_eq (congrArg (fun z : (Nat → Int32) => ([(h, .inr (3, seF z))] : va_W)) eS.symm) hP) (vD_eq (congrArg (fun z : (Nat → Int32) => ([(h, .inr (3, seF z))] : va_W)) eS.symm) hD) hS dX3_change_81
  have eS := eS.trans (if_neg c_1_2)
  refine (Decidable.em (w = 3)).elim (fun c_1_3 => ?_) (fun c_1_3 => ?_)
  · have eS := eS.trans (if_pos c_1_3)
    refine lv_tableIn (tgt := 60) hx hb dX3_change_1 (by rw [c_1_3]; decide) (by rw [c_1_3]; decide) (by rw [c_1_3]; rfl) (by decide) ?_
    refine lv_aload_n hx hb dX3_change_60 rfl (lv_at hl 0 rfl) ?_
    refine lv_iload_n hx hb dX3_change_61 rfl (lv_at hl 2 rfl) ?_
    refine r_put hx hb hts hown hK hP hD hS fl_X3_19 fw_3_3 0 rfl rfl rfl (Nat.le_of_ble_eq_true rfl) dX3_change_62 (fun H locs hP hD hS => ?_)
    replace hP : va_P G vwCl ([(h, .inr (3, seF (upd u 3 v)))]) H := hP
    replace hD : va_D A ([(h, .inr (3, seF (upd u 3 v)))]) := hD
    refine lv_goto (tgt := 81) hx hb dX3_change_65 (by decide) ?_
    exact fin_v hx hb hr hlocks hK (vP_eq (congrArg (fun z : (Nat → Int32) => ([(h, .inr (3, seF z))] : va_W)) eS.symm) hP) (vD_eq (congrArg (fun z : (Nat → Int32) => ([(h, .inr (3, seF z))] : va_W)) eS.symm) hD) hS dX3_change_81
  have eS := eS.trans (if_neg c_1_3)
  refine (Decidable.em (w = 4)).elim (fun c_1_4 => ?_) (fun c_1_4 => ?_)
  · have eS := eS.trans (if_pos c_1_4)
    refine lv_tableIn (tgt := 68) hx hb dX3_change_1 (by rw [c_1_4]; decide) (by rw [c_1_4]; decide) (by rw [c_1_4]; rfl) (by decide) ?_
    refine lv_aload_n hx hb dX3_change_68 rfl (lv_at hl 0 rfl) ?_
    refine lv_iload_n hx hb dX3_change_69 rfl (lv_at hl 2 rfl) ?_
    refine r_put hx hb hts hown hK hP hD hS fl_X3_22 fw_3_4 0 rfl rfl rfl (Nat.le_of_ble_eq_true rfl) dX3_change_70 (fun H locs hP hD hS => ?_)
    replace hP : va_P G vwCl ([(h, .inr (3, seF (upd u 4 v)))]) H := hP
    replace hD : va_D A ([(h, .inr (3, seF (upd u 4 v)))]) := hD
    refine lv_goto (tgt := 81) hx hb dX3_change_73 (by decide) ?_
    exact fin_v hx hb hr hlocks hK (vP_eq (congrArg (fun z : (Nat → Int32) => ([(h, .inr (3, seF z))] : va_W)) eS.symm) hP) (vD_eq (congrArg (fun z : (Nat → Int32) => ([(h, .inr (3, seF z))] : va_W)) eS.symm) hD) hS dX3_change_81
  have eS := eS.trans (if_neg c_1_4)
  refine lv_tableOut (tgt := 76) hx hb dX3_change_1 (by have t0 := lv_neT (a := 0) c_1_0 (by decide); have t1 := lv_neT (a := 1) c_1_1 (by decide); have t2 := lv_neT (a := 2) c_1_2 (by decide); have t3 := lv_neT (a := 3) c_1_3 (by decide); have t4 := lv_neT (a := 4) c_1_4 (by decide); omega) (by decide) ?_
  refine lv_aload_n hx hb dX3_change_76 rfl (lv_at hl 0 rfl) ?_
  refine lv_iload_n hx hb dX3_change_77 rfl (lv_at hl 2 rfl) ?_
  refine r_put hx hb hts hown hK hP hD hS fl_X3_25 fw_3_5 0 rfl rfl rfl (Nat.le_of_ble_eq_true rfl) dX3_change_78 (fun H locs hP hD hS => ?_)
  replace hP : va_P G vwCl ([(h, .inr (3, seF (upd u 5 v)))]) H := hP
  replace hD : va_D A ([(h, .inr (3, seF (upd u 5 v)))]) := hD
  exact fin_v hx hb hr hlocks hK (vP_eq (congrArg (fun z : (Nat → Int32) => ([(h, .inr (3, seF z))] : va_W)) eS.symm) hP) (vD_eq (congrArg (fun z : (Nat → Int32) => ([(h, .inr (3, seF z))] : va_W)) eS.symm) hD) hS dX3_change_81
def sX3_copyFrom (u : Nat → Int32) (u2 : Nat → Int32) : (Nat → Int32) :=
  (upd (upd (upd (upd (upd (upd u 0 (u2 0)) 1 (u2 1)) 2 (u2 2)) 3 (u2 3)) 4 (u2 4)) 5 (u2 5))
set_option maxRecDepth 100000 in
set_option maxHeartbeats 4000000 in
theorem c_X3_copyFrom (l : Launch) (G : va_G) (kk : Nat → ClassId) (h : Nat) (u : Nat → Int32) (h2 : Nat) (u2 : Nat → Int32)  : CC l yX3_copyFrom cX3_copyFrom 2 none (rmO 0 0) [.ref h, .ref h2] G kk ([(h, .inr (3, seF u)), (h2, .inr (3, seF u2))]) (QV G kk ([(h, .inr (3, seF (sX3_copyFrom u u2))), (h2, .inr (3, seF u2))])) := by
  refine cc_start (by decide +kernel) (Nat.le_of_ble_eq_true rfl) ?_
  intro p e s m below meth c A ls hx hb hr hml hown hts hlocks hA hE hK hP hD hS hl
  have hown : s.vm.findClass RX3 = some m.cls := hown
  have hl : lv_has ls 2 [(0, .ref h), (1, .ref h2)] := hl
  have eS : sX3_copyFrom u u2 = sX3_copyFrom u u2 := rfl
  refine lv_aload_n hx hb dX3_copyFrom_0 rfl (lv_at hl 0 rfl) ?_
  refine lv_aload_n hx hb dX3_copyFrom_1 rfl (lv_at hl 1 rfl) ?_
  refine r_get (v := .int (u2 0)) hx hb hts hown hK hP fl_X3_7 1 rfl rfl dX3_copyFrom_2 ?_
  refine r_put hx hb hts hown hK hP hD hS fl_X3_7 fw_3_0 0 rfl rfl rfl (Nat.le_of_ble_eq_true rfl) dX3_copyFrom_5 (fun H locs hP hD hS => ?_)
  replace hP : va_P G vwCl ([(h, .inr (3, seF (upd u 0 (u2 0)))), (h2, .inr (3, seF u2))]) H := hP
  replace hD : va_D A ([(h, .inr (3, seF (upd u 0 (u2 0)))), (h2, .inr (3, seF u2))]) := hD
  refine lv_aload_n hx hb dX3_copyFrom_8 rfl (lv_at hl 0 rfl) ?_
  refine lv_aload_n hx hb dX3_copyFrom_9 rfl (lv_at hl 1 rfl) ?_
  refine r_get (v := .int (u2 1)) hx hb hts hown hK hP fl_X3_13 1 rfl rfl dX3_copyFrom_10 ?_
  refine r_put hx hb hts hown hK hP hD hS fl_X3_13 fw_3_1 0 rfl rfl rfl (Nat.le_of_ble_eq_true rfl) dX3_copyFrom_13 (fun H locs hP hD hS => ?_)
  replace hP : va_P G vwCl ([(h, .inr (3, seF (upd (upd u 0 (u2 0)) 1 (u2 1)))), (h2, .inr (3, seF u2))]) H := hP
  replace hD : va_D A ([(h, .inr (3, seF (upd (upd u 0 (u2 0)) 1 (u2 1)))), (h2, .inr (3, seF u2))]) := hD
  refine lv_aload_n hx hb dX3_copyFrom_16 rfl (lv_at hl 0 rfl) ?_
  refine lv_aload_n hx hb dX3_copyFrom_17 rfl (lv_at hl 1 rfl) ?_
  refine r_get (v := .int (u2 2)) hx hb hts hown hK hP fl_X3_16 1 rfl rfl dX3_copyFrom_18 ?_
  refine r_put hx hb hts hown hK hP hD hS fl_X3_16 fw_3_2 0 rfl rfl rfl (Nat.le_of_ble_eq_true rfl) dX3_copyFrom_21 (fun H locs hP hD hS => ?_)
  replace hP : va_P G vwCl ([(h, .inr (3, seF (upd (upd (upd u 0 (u2 0)) 1 (u2 1)) 2 (u2 2)))), (h2, .inr (3, seF u2))]) H := hP
  replace hD : va_D A ([(h, .inr (3, seF (upd (upd (upd u 0 (u2 0)) 1 (u2 1)) 2 (u2 2)))), (h2, .inr (3, seF u2))]) := hD
  refine lv_aload_n hx hb dX3_copyFrom_24 rfl (lv_at hl 0 rfl) ?_
  refine lv_aload_n hx hb dX3_copyFrom_25 rfl (lv_at hl 1 rfl) ?_
  refine r_get (v := .int (u2 3)) hx hb hts hown hK hP fl_X3_19 1 rfl rfl dX3_copyFrom_26 ?_
  refine r_put hx hb hts hown hK hP hD hS fl_X3_19 fw_3_3 0 rfl rfl rfl (Nat.le_of_ble_eq_true rfl) dX3_copyFrom_29 (fun H locs hP hD hS => ?_)
  replace hP : va_P G vwCl ([(h, .inr (3, seF (upd (upd (upd (upd u 0 (u2 0)) 1 (u2 1)) 2 (u2 2)) 3 (u2 3)))), (h2, .inr (3, seF u2))]) H := hP
  replace hD : va_D A ([(h, .inr (3, seF (upd (upd (upd (upd u 0 (u2 0)) 1 (u2 1)) 2 (u2 2)) 3 (u2 3)))), (h2, .inr (3, seF u2))]) := hD
  refine lv_aload_n hx hb dX3_copyFrom_32 rfl (lv_at hl 0 rfl) ?_
  refine lv_aload_n hx hb dX3_copyFrom_33 rfl (lv_at hl 1 rfl) ?_
  refine r_get (v := .int (u2 4)) hx hb hts hown hK hP fl_X3_22 1 rfl rfl dX3_copyFrom_34 ?_
  refine r_put hx hb hts hown hK hP hD hS fl_X3_22 fw_3_4 0 rfl rfl rfl (Nat.le_of_ble_eq_true rfl) dX3_copyFrom_37 (fun H locs hP hD hS => ?_)
  replace hP : va_P G vwCl ([(h, .inr (3, seF (upd (upd (upd (upd (upd u 0 (u2 0)) 1 (u2 1)) 2 (u2 2)) 3 (u2 3)) 4 (u2 4)))), (h2, .inr (3, seF u2))]) H := hP
  replace hD : va_D A ([(h, .inr (3, seF (upd (upd (upd (upd (upd u 0 (u2 0)) 1 (u2 1)) 2 (u2 2)) 3 (u2 3)) 4 (u2 4)))), (h2, .inr (3, seF u2))]) := hD
  refine lv_aload_n hx hb dX3_copyFrom_40 rfl (lv_at hl 0 rfl) ?_
  refine lv_aload_n hx hb dX3_copyFrom_41 rfl (lv_at hl 1 rfl) ?_
  refine r_get (v := .int (u2 5)) hx hb hts hown hK hP fl_X3_25 1 rfl rfl dX3_copyFrom_42 ?_
  refine r_put hx hb hts hown hK hP hD hS fl_X3_25 fw_3_5 0 rfl rfl rfl (Nat.le_of_ble_eq_true rfl) dX3_copyFrom_45 (fun H locs hP hD hS => ?_)
  replace hP : va_P G vwCl ([(h, .inr (3, seF (upd (upd (upd (upd (upd (upd u 0 (u2 0)) 1 (u2 1)) 2 (u2 2)) 3 (u2 3)) 4 (u2 4)) 5 (u2 5)))), (h2, .inr (3, seF u2))]) H := hP
  replace hD : va_D A ([(h, .inr (3, seF (upd (upd (upd (upd (upd (upd u 0 (u2 0)) 1 (u2 1)) 2 (u2 2)) 3 (u2 3)) 4 (u2 4)) 5 (u2 5)))), (h2, .inr (3, seF u2))]) := hD
  exact fin_v hx hb hr hlocks hK (vP_eq (congrArg (fun z : (Nat → Int32) => ([(h, .inr (3, seF z)), (h2, .inr (3, seF u2))] : va_W)) eS.symm) hP) (vD_eq (congrArg (fun z : (Nat → Int32) => ([(h, .inr (3, seF z)), (h2, .inr (3, seF u2))] : va_W)) eS.symm) hD) hS dX3_copyFrom_48
