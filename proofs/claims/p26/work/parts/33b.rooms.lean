def sX7_doTurn_z_8 (g4 : Nat → Int32) (u4 : Nat → Int32) (rv4 : Nat → Nat → Int32) (x : Int32) (z_8 : Int32 × (Nat → Int32) × (Nat → Nat → Int32)) : (Nat → Int32) × (Nat → Int32) × (Nat → Nat → Int32) :=
  (z_8.2.1, u4, z_8.2.2)
def sX7_doTurn_z_7 (g4 : Nat → Int32) (u4 : Nat → Int32) (rv4 : Nat → Nat → Int32) (x : Int32) (z_7 : Int32 × (Nat → Int32)) : (Nat → Int32) × (Nat → Int32) × (Nat → Nat → Int32) :=
  (g4, z_7.2, rv4)
def sX7_doTurn_z_6 (g4 : Nat → Int32) (u4 : Nat → Int32) (rv4 : Nat → Nat → Int32) (x : Int32) (z_6 : Int32 × (Nat → Int32)) : (Nat → Int32) × (Nat → Int32) × (Nat → Nat → Int32) :=
  (g4, z_6.2, rv4)
def sX7_doTurn_z_5 (g4 : Nat → Int32) (u4 : Nat → Int32) (rv4 : Nat → Nat → Int32) (x : Int32) (z_5 : Int32 × (Nat → Nat → Int32)) : (Nat → Int32) × (Nat → Int32) × (Nat → Nat → Int32) :=
  (g4, u4, z_5.2)
def sX7_doTurn_z_3 (g4 : Nat → Int32) (u4 : Nat → Int32) (rv4 : Nat → Nat → Int32) (x : Int32) (z_3 : Int32 × (Nat → Nat → Int32)) : (Nat → Int32) × (Nat → Int32) × (Nat → Nat → Int32) :=
  (g4, u4, z_3.2)
def sX7_doTurn_z_4 (g4 : Nat → Int32) (u4 : Nat → Int32) (rv4 : Nat → Nat → Int32) (x : Int32) (z_4 : Int32 × (Nat → Nat → Int32)) : (Nat → Int32) × (Nat → Int32) × (Nat → Nat → Int32) :=
  (g4, u4, z_4.2)
def sX7_doTurn_z_1 (g4 : Nat → Int32) (u4 : Nat → Int32) (rv4 : Nat → Nat → Int32) (x : Int32) (z_1 : Int32 × (Nat → Nat → Int32)) : (Nat → Int32) × (Nat → Int32) × (Nat → Nat → Int32) :=
  (g4, u4, z_1.2)
def sX7_doTurn_z_2 (g4 : Nat → Int32) (u4 : Nat → Int32) (rv4 : Nat → Nat → Int32) (x : Int32) (z_2 : Int32 × (Nat → Nat → Int32)) : (Nat → Int32) × (Nat → Int32) × (Nat → Nat → Int32) :=
  (g4, u4, z_2.2)
def sX7_doTurn (g4 : Nat → Int32) (u4 : Nat → Int32) (rv4 : Nat → Nat → Int32) (x : Int32) : (Nat → Int32) × (Nat → Int32) × (Nat → Nat → Int32) :=
  (if (x - x / 8 * 8) = 0 then (if (((x / 8) / 8) - ((x / 8) / 8) / 3 * 3) = 0 then (sX7_doTurn_z_2 g4 u4 rv4 x (sX5_moveDoor g4 u4 rv4 ((x / 8) - (x / 8) / 6 * 6) 1)) else (sX7_doTurn_z_1 g4 u4 rv4 x (sX5_moveDoor g4 u4 rv4 ((x / 8) - (x / 8) / 6 * 6) 0))) else (if (x - x / 8 * 8) = 1 then (if (((x / 8) / 8) - ((x / 8) / 8) / 3 * 3) = 0 then (sX7_doTurn_z_4 g4 u4 rv4 x (sX5_moveDoor g4 u4 rv4 ((x / 8) - (x / 8) / 6 * 6) 1)) else (sX7_doTurn_z_3 g4 u4 rv4 x (sX5_moveDoor g4 u4 rv4 ((x / 8) - (x / 8) / 6 * 6) 0))) else (if (x - x / 8 * 8) = 2 then (sX7_doTurn_z_5 g4 u4 rv4 x (sX5_takeGoods g4 u4 rv4 ((x / 8) - (x / 8) / 6 * 6) ((((x / 8) / 8) - ((x / 8) / 8) / 401 * 401) - 200))) else (if (x - x / 8 * 8) = 3 then (sX7_doTurn_z_6 g4 u4 rv4 x (sX5_changeSetting g4 u4 rv4 0 ((x / 8) - (x / 8) / 1000 * 1000))) else (if (x - x / 8 * 8) = 4 then (sX7_doTurn_z_7 g4 u4 rv4 x (sX5_changeSetting g4 u4 rv4 4 (1 + ((x / 8) - (x / 8) / 100 * 100)))) else (sX7_doTurn_z_8 g4 u4 rv4 x (sX5_passMinutes g4 u4 rv4 (1 + ((x / 8) - (x / 8) / 15 * 15)))))))))
set_option maxRecDepth 100000 in
set_option maxHeartbeats 4000000 in
theorem c_X7_doTurn (l : Launch) (G : va_G) (kk : Nat → ClassId) (h : Nat) (ad : Nat → Nat → Nat) (g4 : Nat → Int32) (u4 : Nat → Int32) (rv4 : Nat → Nat → Int32) (x : Int32)  : CC l yX7_doTurn cX7_doTurn 3 none (rmO 5 120) [.ref h, .int x] G kk ([(h, .inr (7, mrG ad))] ++ (stW kk (ad 4) g4 u4 rv4)) (QV G kk ([(h, .inr (7, mrG ad))] ++ (stW kk (ad 4) ((sX7_doTurn g4 u4 rv4 x).1) ((sX7_doTurn g4 u4 rv4 x).2.1) ((sX7_doTurn g4 u4 rv4 x).2.2)))) := by
  refine cc_start (by decide +kernel) (Nat.le_of_ble_eq_true rfl) ?_
  intro p e s m below meth c A ls hx hb hr hml hown hts hlocks hA hE hK hP hD hS hl
  have hown : s.vm.findClass RX7 = some m.cls := hown
  have hl : lv_has ls 3 [(0, .ref h), (1, .int x)] := hl
  have eS : sX7_doTurn g4 u4 rv4 x = sX7_doTurn g4 u4 rv4 x := rfl
  refine lv_iload_n hx hb dX7_doTurn_0 rfl (lv_at hl 1 rfl) ?_
  refine lv_bipush (v := 8) hx hb dX7_doTurn_1 (by decide) ?_
  refine lv_idiv hx hb dX7_doTurn_3 (by decide) ?_
  refine lv_istore_n (lv' := [(2, .int (x / 8)), (0, .ref h), (1, .int x)]) hx hb dX7_doTurn_4 rfl hl (by decide) rfl (fun ls hl => ?_)
  refine lv_iload_n hx hb dX7_doTurn_5 rfl (lv_at hl 2 rfl) ?_
  refine lv_bipush (v := 8) hx hb dX7_doTurn_6 (by decide) ?_
  refine lv_irem hx hb dX7_doTurn_8 (by decide) ?_
  refine (Decidable.em ((x - x / 8 * 8) = 0)).elim (fun c_9_0 => ?_) (fun c_9_0 => ?_)
  · have eS := eS.trans (if_pos c_9_0)
    refine lv_tableIn (tgt := 44) hx hb dX7_doTurn_9 (by rw [c_9_0]; decide) (by rw [c_9_0]; decide) (by rw [c_9_0]; rfl) (by decide) ?_
    refine lv_aload_n hx hb dX7_doTurn_44 rfl (lv_at hl 1 rfl) ?_
    refine r_get (v := .ref ((ad 4) 0)) hx hb hts hown hK hP fl_X7_26 0 rfl rfl dX7_doTurn_45 ?_
    refine lv_iload_n hx hb dX7_doTurn_48 rfl (lv_at hl 0 rfl) ?_
    refine lv_bipush (v := 6) hx hb dX7_doTurn_49 (by decide) ?_
    refine lv_irem hx hb dX7_doTurn_51 (by decide) ?_
    refine lv_iload_n hx hb dX7_doTurn_52 rfl (lv_at hl 0 rfl) ?_
    refine lv_bipush (v := 8) hx hb dX7_doTurn_53 (by decide) ?_
    refine lv_idiv hx hb dX7_doTurn_55 (by decide) ?_
    refine lv_iconst (v := 3) hx hb dX7_doTurn_56 (by decide) ?_
    refine lv_irem hx hb dX7_doTurn_57 (by decide) ?_
    refine lv_if_ne (tgt := 65) hx hb dX7_doTurn_58 (by decide) (fun c_58 => ?_) (fun c_58 => ?_)
    · have eS := eS.trans (if_neg c_58)
      refine lv_iconst (v := 0) hx hb dX7_doTurn_65 (by decide) ?_
      refine k_goI (k_runV (rest := []) (As := [.int ((x / 8) - (x / 8) / 6 * 6), .int 0]) hx hb hml hown hts hK hP hD hS hA hE hl.1 (c_X5_moveDoor l G kk (ad 4) g4 u4 rv4 ((x / 8) - (x / 8) / 6 * 6) 0 (by first | exact zb_0 | exact zb_1)) vl_X7_116 rfl rfl rfl ⟨Nat.le_of_ble_eq_true rfl, Nat.le_of_ble_eq_true rfl, rfl, rfl⟩ [1, 2, 3, 4, 5, 6, 7, 8, 9] rfl rfl ⟨Nat.zero_le _, Nat.zero_le _⟩ rfl (Nat.le_of_ble_eq_true rfl) dX7_doTurn_66) hP hD hS hA [1, 2, 3, 4, 5, 6, 7, 8, 9] rfl st_ads (fun H locs hP hD hS => ?_)
      replace hP : va_P G vwCl ([(h, .inr (7, mrG ad))] ++ (stW kk (ad 4) g4 u4 ((sX5_moveDoor g4 u4 rv4 ((x / 8) - (x / 8) / 6 * 6) 0).2))) H := hP
      replace hD : va_D A ([(h, .inr (7, mrG ad))] ++ (stW kk (ad 4) g4 u4 ((sX5_moveDoor g4 u4 rv4 ((x / 8) - (x / 8) / 6 * 6) 0).2))) := hD
      have eS : sX7_doTurn g4 u4 rv4 x = sX7_doTurn_z_1 g4 u4 rv4 x (sX5_moveDoor g4 u4 rv4 ((x / 8) - (x / 8) / 6 * 6) 0) := eS
      generalize sX5_moveDoor g4 u4 rv4 ((x / 8) - (x / 8) / 6 * 6) 0 = z_1 at hP hD eS ⊢
      refine lv_pop hx hb dX7_doTurn_69 rfl ?_
      refine lv_goto (tgt := 149) hx hb dX7_doTurn_70 (by decide) ?_
      exact fin_v hx hb hr hlocks hK (vP_eq (congrArg (fun z : (Nat → Int32) × (Nat → Int32) × (Nat → Nat → Int32) => ([(h, .inr (7, mrG ad))] ++ (stW kk (ad 4) z.1 z.2.1 z.2.2) : va_W)) eS.symm) hP) (vD_eq (congrArg (fun z : (Nat → Int32) × (Nat → Int32) × (Nat → Nat → Int32) => ([(h, .inr (7, mrG ad))] ++ (stW kk (ad 4) z.1 z.2.1 z.2.2) : va_W)) eS.symm) hD) hS dX7_doTurn_149
    · have eS := eS.trans (if_pos c_58)
      refine lv_iconst (v := 1) hx hb dX7_doTurn_61 (by decide) ?_
      refine lv_goto (tgt := 66) hx hb dX7_doTurn_62 (by decide) ?_
      refine k_goI (k_runV (rest := []) (As := [.int ((x / 8) - (x / 8) / 6 * 6), .int 1]) hx hb hml hown hts hK hP hD hS hA hE hl.1 (c_X5_moveDoor l G kk (ad 4) g4 u4 rv4 ((x / 8) - (x / 8) / 6 * 6) 1 (by first | exact zb_0 | exact zb_1)) vl_X7_116 rfl rfl rfl ⟨Nat.le_of_ble_eq_true rfl, Nat.le_of_ble_eq_true rfl, rfl, rfl⟩ [1, 2, 3, 4, 5, 6, 7, 8, 9] rfl rfl ⟨Nat.zero_le _, Nat.zero_le _⟩ rfl (Nat.le_of_ble_eq_true rfl) dX7_doTurn_66) hP hD hS hA [1, 2, 3, 4, 5, 6, 7, 8, 9] rfl st_ads (fun H locs hP hD hS => ?_)
      replace hP : va_P G vwCl ([(h, .inr (7, mrG ad))] ++ (stW kk (ad 4) g4 u4 ((sX5_moveDoor g4 u4 rv4 ((x / 8) - (x / 8) / 6 * 6) 1).2))) H := hP
      replace hD : va_D A ([(h, .inr (7, mrG ad))] ++ (stW kk (ad 4) g4 u4 ((sX5_moveDoor g4 u4 rv4 ((x / 8) - (x / 8) / 6 * 6) 1).2))) := hD
      have eS : sX7_doTurn g4 u4 rv4 x = sX7_doTurn_z_2 g4 u4 rv4 x (sX5_moveDoor g4 u4 rv4 ((x / 8) - (x / 8) / 6 * 6) 1) := eS
      generalize sX5_moveDoor g4 u4 rv4 ((x / 8) - (x / 8) / 6 * 6) 1 = z_2 at hP hD eS ⊢
      refine lv_pop hx hb dX7_doTurn_69 rfl ?_
      refine lv_goto (tgt := 149) hx hb dX7_doTurn_70 (by decide) ?_
      exact fin_v hx hb hr hlocks hK (vP_eq (congrArg (fun z : (Nat → Int32) × (Nat → Int32) × (Nat → Nat → Int32) => ([(h, .inr (7, mrG ad))] ++ (stW kk (ad 4) z.1 z.2.1 z.2.2) : va_W)) eS.symm) hP) (vD_eq (congrArg (fun z : (Nat → Int32) × (Nat → Int32) × (Nat → Nat → Int32) => ([(h, .inr (7, mrG ad))] ++ (stW kk (ad 4) z.1 z.2.1 z.2.2) : va_W)) eS.symm) hD) hS dX7_doTurn_149
  have eS := eS.trans (if_neg c_9_0)
  refine (Decidable.em ((x - x / 8 * 8) = 1)).elim (fun c_9_1 => ?_) (fun c_9_1 => ?_)
  · have eS := eS.trans (if_pos c_9_1)
    refine lv_tableIn (tgt := 44) hx hb dX7_doTurn_9 (by rw [c_9_1]; decide) (by rw [c_9_1]; decide) (by rw [c_9_1]; rfl) (by decide) ?_
    refine lv_aload_n hx hb dX7_doTurn_44 rfl (lv_at hl 1 rfl) ?_
    refine r_get (v := .ref ((ad 4) 0)) hx hb hts hown hK hP fl_X7_26 0 rfl rfl dX7_doTurn_45 ?_
    refine lv_iload_n hx hb dX7_doTurn_48 rfl (lv_at hl 0 rfl) ?_
    refine lv_bipush (v := 6) hx hb dX7_doTurn_49 (by decide) ?_
    refine lv_irem hx hb dX7_doTurn_51 (by decide) ?_
    refine lv_iload_n hx hb dX7_doTurn_52 rfl (lv_at hl 0 rfl) ?_
    refine lv_bipush (v := 8) hx hb dX7_doTurn_53 (by decide) ?_
    refine lv_idiv hx hb dX7_doTurn_55 (by decide) ?_
    refine lv_iconst (v := 3) hx hb dX7_doTurn_56 (by decide) ?_
    refine lv_irem hx hb dX7_doTurn_57 (by decide) ?_
    refine lv_if_ne (tgt := 65) hx hb dX7_doTurn_58 (by decide) (fun c_58 => ?_) (fun c_58 => ?_)
    · have eS := eS.trans (if_neg c_58)
      refine lv_iconst (v := 0) hx hb dX7_doTurn_65 (by decide) ?_
      refine k_goI (k_runV (rest := []) (As := [.int ((x / 8) - (x / 8) / 6 * 6), .int 0]) hx hb hml hown hts hK hP hD hS hA hE hl.1 (c_X5_moveDoor l G kk (ad 4) g4 u4 rv4 ((x / 8) - (x / 8) / 6 * 6) 0 (by first | exact zb_0 | exact zb_1)) vl_X7_116 rfl rfl rfl ⟨Nat.le_of_ble_eq_true rfl, Nat.le_of_ble_eq_true rfl, rfl, rfl⟩ [1, 2, 3, 4, 5, 6, 7, 8, 9] rfl rfl ⟨Nat.zero_le _, Nat.zero_le _⟩ rfl (Nat.le_of_ble_eq_true rfl) dX7_doTurn_66) hP hD hS hA [1, 2, 3, 4, 5, 6, 7, 8, 9] rfl st_ads (fun H locs hP hD hS => ?_)
      replace hP : va_P G vwCl ([(h, .inr (7, mrG ad))] ++ (stW kk (ad 4) g4 u4 ((sX5_moveDoor g4 u4 rv4 ((x / 8) - (x / 8) / 6 * 6) 0).2))) H := hP
      replace hD : va_D A ([(h, .inr (7, mrG ad))] ++ (stW kk (ad 4) g4 u4 ((sX5_moveDoor g4 u4 rv4 ((x / 8) - (x / 8) / 6 * 6) 0).2))) := hD
      have eS : sX7_doTurn g4 u4 rv4 x = sX7_doTurn_z_3 g4 u4 rv4 x (sX5_moveDoor g4 u4 rv4 ((x / 8) - (x / 8) / 6 * 6) 0) := eS
      generalize sX5_moveDoor g4 u4 rv4 ((x / 8) - (x / 8) / 6 * 6) 0 = z_3 at hP hD eS ⊢
      refine lv_pop hx hb dX7_doTurn_69 rfl ?_
      refine lv_goto (tgt := 149) hx hb dX7_doTurn_70 (by decide) ?_
      exact fin_v hx hb hr hlocks hK (vP_eq (congrArg (fun z : (Nat → Int32) × (Nat → Int32) × (Nat → Nat → Int32) => ([(h, .inr (7, mrG ad))] ++ (stW kk (ad 4) z.1 z.2.1 z.2.2) : va_W)) eS.symm) hP) (vD_eq (congrArg (fun z : (Nat → Int32) × (Nat → Int32) × (Nat → Nat → Int32) => ([(h, .inr (7, mrG ad))] ++ (stW kk (ad 4) z.1 z.2.1 z.2.2) : va_W)) eS.symm) hD) hS dX7_doTurn_149
    · have eS := eS.trans (if_pos c_58)
      refine lv_iconst (v := 1) hx hb dX7_doTurn_61 (by decide) ?_
      refine lv_goto (tgt := 66) hx hb dX7_doTurn_62 (by decide) ?_
      refine k_goI (k_runV (rest := []) (As := [.int ((x / 8) - (x / 8) / 6 * 6), .int 1]) hx hb hml hown hts hK hP hD hS hA hE hl.1 (c_X5_moveDoor l G kk (ad 4) g4 u4 rv4 ((x / 8) - (x / 8) / 6 * 6) 1 (by first | exact zb_0 | exact zb_1)) vl_X7_116 rfl rfl rfl ⟨Nat.le_of_ble_eq_true rfl, Nat.le_of_ble_eq_true rfl, rfl, rfl⟩ [1, 2, 3, 4, 5, 6, 7, 8, 9] rfl rfl ⟨Nat.zero_le _, Nat.zero_le _⟩ rfl (Nat.le_of_ble_eq_true rfl) dX7_doTurn_66) hP hD hS hA [1, 2, 3, 4, 5, 6, 7, 8, 9] rfl st_ads (fun H locs hP hD hS => ?_)
      replace hP : va_P G vwCl ([(h, .inr (7, mrG ad))] ++ (stW kk (ad 4) g4 u4 ((sX5_moveDoor g4 u4 rv4 ((x / 8) - (x / 8) / 6 * 6) 1).2))) H := hP
      replace hD : va_D A ([(h, .inr (7, mrG ad))] ++ (stW kk (ad 4) g4 u4 ((sX5_moveDoor g4 u4 rv4 ((x / 8) - (x / 8) / 6 * 6) 1).2))) := hD
      have eS : sX7_doTurn g4 u4 rv4 x = sX7_doTurn_z_4 g4 u4 rv4 x (sX5_moveDoor g4 u4 rv4 ((x / 8) - (x / 8) / 6 * 6) 1) := eS
      generalize sX5_moveDoor g4 u4 rv4 ((x / 8) - (x / 8) / 6 * 6) 1 = z_4 at hP hD eS ⊢
      refine lv_pop hx hb dX7_doTurn_69 rfl ?_
      refine lv_goto (tgt := 149) hx hb dX7_doTurn_70 (by decide) ?_
      exact fin_v hx hb hr hlocks hK (vP_eq (congrArg (fun z : (Nat → Int32) × (Nat → Int32) × (Nat → Nat → Int32) => ([(h, .inr (7, mrG ad))] ++ (stW kk (ad 4) z.1 z.2.1 z.2.2) : va_W)) eS.symm) hP) (vD_eq (congrArg (fun z : (Nat → Int32) × (Nat → Int32) × (Nat → Nat → Int32) => ([(h, .inr (7, mrG ad))] ++ (stW kk (ad 4) z.1 z.2.1 z.2.2) : va_W)) eS.symm) hD) hS dX7_doTurn_149
  have eS := eS.trans (if_neg c_9_1)
  refine (Decidable.em ((x - x / 8 * 8) = 2)).elim (fun c_9_2 => ?_) (fun c_9_2 => ?_)
  · have eS := eS.trans (if_pos c_9_2)
    refine lv_tableIn (tgt := 73) hx hb dX7_doTurn_9 (by rw [c_9_2]; decide) (by rw [c_9_2]; decide) (by rw [c_9_2]; rfl) (by decide) ?_
    refine lv_aload_n hx hb dX7_doTurn_73 rfl (lv_at hl 1 rfl) ?_
    refine r_get (v := .ref ((ad 4) 0)) hx hb hts hown hK hP fl_X7_26 0 rfl rfl dX7_doTurn_74 ?_
    refine lv_iload_n hx hb dX7_doTurn_77 rfl (lv_at hl 0 rfl) ?_
    refine lv_bipush (v := 6) hx hb dX7_doTurn_78 (by decide) ?_
    refine lv_irem hx hb dX7_doTurn_80 (by decide) ?_
    refine lv_iload_n hx hb dX7_doTurn_81 rfl (lv_at hl 0 rfl) ?_
    refine lv_bipush (v := 8) hx hb dX7_doTurn_82 (by decide) ?_
    refine lv_idiv hx hb dX7_doTurn_84 (by decide) ?_
    refine lv_sipush (v := 401) hx hb dX7_doTurn_85 (by decide) ?_
    refine lv_irem hx hb dX7_doTurn_88 (by decide) ?_
    refine lv_sipush (v := 200) hx hb dX7_doTurn_89 (by decide) ?_
    refine lv_isub hx hb dX7_doTurn_92 ?_
    refine k_goI (k_runV (rest := []) (As := [.int ((x / 8) - (x / 8) / 6 * 6), .int ((((x / 8) / 8) - ((x / 8) / 8) / 401 * 401) - 200)]) hx hb hml hown hts hK hP hD hS hA hE hl.1 (c_X5_takeGoods l G kk (ad 4) g4 u4 rv4 ((x / 8) - (x / 8) / 6 * 6) ((((x / 8) / 8) - ((x / 8) / 8) / 401 * 401) - 200) ) vl_X7_195 rfl rfl rfl ⟨Nat.le_of_ble_eq_true rfl, Nat.le_of_ble_eq_true rfl, rfl, rfl⟩ [1, 2, 3, 4, 5, 6, 7, 8, 9] rfl rfl ⟨Nat.zero_le _, Nat.zero_le _⟩ rfl (Nat.le_of_ble_eq_true rfl) dX7_doTurn_93) hP hD hS hA [1, 2, 3, 4, 5, 6, 7, 8, 9] rfl st_ads (fun H locs hP hD hS => ?_)
    replace hP : va_P G vwCl ([(h, .inr (7, mrG ad))] ++ (stW kk (ad 4) g4 u4 ((sX5_takeGoods g4 u4 rv4 ((x / 8) - (x / 8) / 6 * 6) ((((x / 8) / 8) - ((x / 8) / 8) / 401 * 401) - 200)).2))) H := hP
    replace hD : va_D A ([(h, .inr (7, mrG ad))] ++ (stW kk (ad 4) g4 u4 ((sX5_takeGoods g4 u4 rv4 ((x / 8) - (x / 8) / 6 * 6) ((((x / 8) / 8) - ((x / 8) / 8) / 401 * 401) - 200)).2))) := hD
    have eS : sX7_doTurn g4 u4 rv4 x = sX7_doTurn_z_5 g4 u4 rv4 x (sX5_takeGoods g4 u4 rv4 ((x / 8) - (x / 8) / 6 * 6) ((((x / 8) / 8) - ((x / 8) / 8) / 401 * 401) - 200)) := eS
    generalize sX5_takeGoods g4 u4 rv4 ((x / 8) - (x / 8) / 6 * 6) ((((x / 8) / 8) - ((x / 8) / 8) / 401 * 401) - 200) = z_5 at hP hD eS ⊢
    refine lv_pop hx hb dX7_doTurn_96 rfl ?_
    refine lv_goto (tgt := 149) hx hb dX7_doTurn_97 (by decide) ?_
    exact fin_v hx hb hr hlocks hK (vP_eq (congrArg (fun z : (Nat → Int32) × (Nat → Int32) × (Nat → Nat → Int32) => ([(h, .inr (7, mrG ad))] ++ (stW kk (ad 4) z.1 z.2.1 z.2.2) : va_W)) eS.symm) hP) (vD_eq (congrArg (fun z : (Nat → Int32) × (Nat → Int32) × (Nat → Nat → Int32) => ([(h, .inr (7, mrG ad))] ++ (stW kk (ad 4) z.1 z.2.1 z.2.2) : va_W)) eS.symm) hD) hS dX7_doTurn_149
  have eS := eS.trans (if_neg c_9_2)
  refine (Decidable.em ((x - x / 8 * 8) = 3)).elim (fun c_9_3 => ?_) (fun c_9_3 => ?_)
  · have eS := eS.trans (if_pos c_9_3)
    refine lv_tableIn (tgt := 100) hx hb dX7_doTurn_9 (by rw [c_9_3]; decide) (by rw [c_9_3]; decide) (by rw [c_9_3]; rfl) (by decide) ?_
    refine lv_aload_n hx hb dX7_doTurn_100 rfl (lv_at hl 1 rfl) ?_
    refine r_get (v := .ref ((ad 4) 0)) hx hb hts hown hK hP fl_X7_26 0 rfl rfl dX7_doTurn_101 ?_
    refine lv_iconst (v := 0) hx hb dX7_doTurn_104 (by decide) ?_
    refine lv_iload_n hx hb dX7_doTurn_105 rfl (lv_at hl 0 rfl) ?_
    refine lv_sipush (v := 1000) hx hb dX7_doTurn_106 (by decide) ?_
    refine lv_irem hx hb dX7_doTurn_109 (by decide) ?_
    refine k_goI (k_runV (rest := []) (As := [.int 0, .int ((x / 8) - (x / 8) / 1000 * 1000)]) hx hb hml hown hts hK hP hD hS hA hE hl.1 (c_X5_changeSetting l G kk (ad 4) g4 u4 rv4 0 ((x / 8) - (x / 8) / 1000 * 1000) ) vl_X7_124 rfl rfl rfl ⟨Nat.le_of_ble_eq_true rfl, Nat.le_of_ble_eq_true rfl, rfl, rfl⟩ [1, 2, 3, 4, 5, 6, 7, 8, 9] rfl rfl ⟨Nat.zero_le _, Nat.zero_le _⟩ rfl (Nat.le_of_ble_eq_true rfl) dX7_doTurn_110) hP hD hS hA [1, 2, 3, 4, 5, 6, 7, 8, 9] rfl st_ads (fun H locs hP hD hS => ?_)
    replace hP : va_P G vwCl ([(h, .inr (7, mrG ad))] ++ (stW kk (ad 4) g4 ((sX5_changeSetting g4 u4 rv4 0 ((x / 8) - (x / 8) / 1000 * 1000)).2) rv4)) H := hP
    replace hD : va_D A ([(h, .inr (7, mrG ad))] ++ (stW kk (ad 4) g4 ((sX5_changeSetting g4 u4 rv4 0 ((x / 8) - (x / 8) / 1000 * 1000)).2) rv4)) := hD
    have eS : sX7_doTurn g4 u4 rv4 x = sX7_doTurn_z_6 g4 u4 rv4 x (sX5_changeSetting g4 u4 rv4 0 ((x / 8) - (x / 8) / 1000 * 1000)) := eS
    generalize sX5_changeSetting g4 u4 rv4 0 ((x / 8) - (x / 8) / 1000 * 1000) = z_6 at hP hD eS ⊢
    refine lv_pop hx hb dX7_doTurn_113 rfl ?_
    refine lv_goto (tgt := 149) hx hb dX7_doTurn_114 (by decide) ?_
    exact fin_v hx hb hr hlocks hK (vP_eq (congrArg (fun z : (Nat → Int32) × (Nat → Int32) × (Nat → Nat → Int32) => ([(h, .inr (7, mrG ad))] ++ (stW kk (ad 4) z.1 z.2.1 z.2.2) : va_W)) eS.symm) hP) (vD_eq (congrArg (fun z : (Nat → Int32) × (Nat → Int32) × (Nat → Nat → Int32) => ([(h, .inr (7, mrG ad))] ++ (stW kk (ad 4) z.1 z.2.1 z.2.2) : va_W)) eS.symm) hD) hS dX7_doTurn_149
  have eS := eS.trans (if_neg c_9_3)
  refine (Decidable.em ((x - x / 8 * 8) = 4)).elim (fun c_9_4 => ?_) (fun c_9_4 => ?_)
  · have eS := eS.trans (if_pos c_9_4)
    refine lv_tableIn (tgt := 117) hx hb dX7_doTurn_9 (by rw [c_9_4]; decide) (by rw [c_9_4]; decide) (by rw [c_9_4]; rfl) (by decide) ?_
    refine lv_aload_n hx hb dX7_doTurn_117 rfl (lv_at hl 1 rfl) ?_
    refine r_get (v := .ref ((ad 4) 0)) hx hb hts hown hK hP fl_X7_26 0 rfl rfl dX7_doTurn_118 ?_
    refine lv_iconst (v := 4) hx hb dX7_doTurn_121 (by decide) ?_
    refine lv_iconst (v := 1) hx hb dX7_doTurn_122 (by decide) ?_
    refine lv_iload_n hx hb dX7_doTurn_123 rfl (lv_at hl 0 rfl) ?_
    refine lv_bipush (v := 100) hx hb dX7_doTurn_124 (by decide) ?_
    refine lv_irem hx hb dX7_doTurn_126 (by decide) ?_
    refine lv_iadd hx hb dX7_doTurn_127 ?_
    refine k_goI (k_runV (rest := []) (As := [.int 4, .int (1 + ((x / 8) - (x / 8) / 100 * 100))]) hx hb hml hown hts hK hP hD hS hA hE hl.1 (c_X5_changeSetting l G kk (ad 4) g4 u4 rv4 4 (1 + ((x / 8) - (x / 8) / 100 * 100)) ) vl_X7_124 rfl rfl rfl ⟨Nat.le_of_ble_eq_true rfl, Nat.le_of_ble_eq_true rfl, rfl, rfl⟩ [1, 2, 3, 4, 5, 6, 7, 8, 9] rfl rfl ⟨Nat.zero_le _, Nat.zero_le _⟩ rfl (Nat.le_of_ble_eq_true rfl) dX7_doTurn_128) hP hD hS hA [1, 2, 3, 4, 5, 6, 7, 8, 9] rfl st_ads (fun H locs hP hD hS => ?_)
    replace hP : va_P G vwCl ([(h, .inr (7, mrG ad))] ++ (stW kk (ad 4) g4 ((sX5_changeSetting g4 u4 rv4 4 (1 + ((x / 8) - (x / 8) / 100 * 100))).2) rv4)) H := hP
    replace hD : va_D A ([(h, .inr (7, mrG ad))] ++ (stW kk (ad 4) g4 ((sX5_changeSetting g4 u4 rv4 4 (1 + ((x / 8) - (x / 8) / 100 * 100))).2) rv4)) := hD
    have eS : sX7_doTurn g4 u4 rv4 x = sX7_doTurn_z_7 g4 u4 rv4 x (sX5_changeSetting g4 u4 rv4 4 (1 + ((x / 8) - (x / 8) / 100 * 100))) := eS
    generalize sX5_changeSetting g4 u4 rv4 4 (1 + ((x / 8) - (x / 8) / 100 * 100)) = z_7 at hP hD eS ⊢
    refine lv_pop hx hb dX7_doTurn_131 rfl ?_
    refine lv_goto (tgt := 149) hx hb dX7_doTurn_132 (by decide) ?_
    exact fin_v hx hb hr hlocks hK (vP_eq (congrArg (fun z : (Nat → Int32) × (Nat → Int32) × (Nat → Nat → Int32) => ([(h, .inr (7, mrG ad))] ++ (stW kk (ad 4) z.1 z.2.1 z.2.2) : va_W)) eS.symm) hP) (vD_eq (congrArg (fun z : (Nat → Int32) × (Nat → Int32) × (Nat → Nat → Int32) => ([(h, .inr (7, mrG ad))] ++ (stW kk (ad 4) z.1 z.2.1 z.2.2) : va_W)) eS.symm) hD) hS dX7_doTurn_149
  have eS := eS.trans (if_neg c_9_4)
  refine lv_tableOut (tgt := 135) hx hb dX7_doTurn_9 (by have t0 := lv_neT (a := 0) c_9_0 (by decide); have t1 := lv_neT (a := 1) c_9_1 (by decide); have t2 := lv_neT (a := 2) c_9_2 (by decide); have t3 := lv_neT (a := 3) c_9_3 (by decide); have t4 := lv_neT (a := 4) c_9_4 (by decide); omega) (by decide) ?_
  refine lv_aload_n hx hb dX7_doTurn_135 rfl (lv_at hl 1 rfl) ?_
  refine r_get (v := .ref ((ad 4) 0)) hx hb hts hown hK hP fl_X7_26 0 rfl rfl dX7_doTurn_136 ?_
  refine lv_iconst (v := 1) hx hb dX7_doTurn_139 (by decide) ?_
  refine lv_iload_n hx hb dX7_doTurn_140 rfl (lv_at hl 0 rfl) ?_
  refine lv_bipush (v := 15) hx hb dX7_doTurn_141 (by decide) ?_
  refine lv_irem hx hb dX7_doTurn_143 (by decide) ?_
  refine lv_iadd hx hb dX7_doTurn_144 ?_
  refine k_goI (k_runV (rest := []) (As := [.int (1 + ((x / 8) - (x / 8) / 15 * 15))]) hx hb hml hown hts hK hP hD hS hA hE hl.1 (c_X5_passMinutes l G kk (ad 4) g4 u4 rv4 (1 + ((x / 8) - (x / 8) / 15 * 15)) ) vl_X7_120 rfl rfl rfl ⟨Nat.le_of_ble_eq_true rfl, Nat.le_of_ble_eq_true rfl, rfl, rfl⟩ [1, 2, 3, 4, 5, 6, 7, 8, 9] rfl rfl ⟨Nat.zero_le _, Nat.zero_le _⟩ rfl (Nat.le_of_ble_eq_true rfl) dX7_doTurn_145) hP hD hS hA [1, 2, 3, 4, 5, 6, 7, 8, 9] rfl st_ads (fun H locs hP hD hS => ?_)
  replace hP : va_P G vwCl ([(h, .inr (7, mrG ad))] ++ (stW kk (ad 4) ((sX5_passMinutes g4 u4 rv4 (1 + ((x / 8) - (x / 8) / 15 * 15))).2.1) u4 ((sX5_passMinutes g4 u4 rv4 (1 + ((x / 8) - (x / 8) / 15 * 15))).2.2))) H := hP
  replace hD : va_D A ([(h, .inr (7, mrG ad))] ++ (stW kk (ad 4) ((sX5_passMinutes g4 u4 rv4 (1 + ((x / 8) - (x / 8) / 15 * 15))).2.1) u4 ((sX5_passMinutes g4 u4 rv4 (1 + ((x / 8) - (x / 8) / 15 * 15))).2.2))) := hD
  have eS : sX7_doTurn g4 u4 rv4 x = sX7_doTurn_z_8 g4 u4 rv4 x (sX5_passMinutes g4 u4 rv4 (1 + ((x / 8) - (x / 8) / 15 * 15))) := eS
  generalize sX5_passMinutes g4 u4 rv4 (1 + ((x / 8) - (x / 8) / 15 * 15)) = z_8 at hP hD eS ⊢
  refine lv_pop hx hb dX7_doTurn_148 rfl ?_
  exact fin_v hx hb hr hlocks hK (vP_eq (congrArg (fun z : (Nat → Int32) × (Nat → Int32) × (Nat → Nat → Int32) => ([(h, .inr (7, mrG ad))] ++ (stW kk (ad 4) z.1 z.2.1 z.2.2) : va_W)) eS.symm) hP) (vD_eq (congrArg (fun z : (Nat → Int32) × (Nat → Int32) × (Nat → Nat → Int32) => ([(h, .inr (7, mrG ad))] ++ (stW kk (ad 4) z.1 z.2.1 z.2.2) : va_W)) eS.symm) hD) hS dX7_doTurn_149
def lp_X7_withoutGroups_5 (x : Int64) (y : Int32) : Nat → Nat → Int64 → Int64
  | 0, i, al => al
  | d + 1, i, al => (lp_X7_withoutGroups_5 x y d (i + 1) (al / 100000))
def sX7_withoutGroups (x : Int64) (y : Int32) : Int64 :=
  (lp_X7_withoutGroups_5 x y y.toNatClampNeg 0 x)
set_option maxRecDepth 100000 in
set_option maxHeartbeats 4000000 in
theorem c_X7_withoutGroups (l : Launch) (G : va_G) (kk : Nat → ClassId) (x : Int64) (y : Int32) (hy : y = nI y.toNatClampNeg) : CC l yX7_withoutGroups cX7_withoutGroups 6 (some .long) (rmO 0 0) [.long x, .int y] G kk ([]) (QL G kk ([]) (sX7_withoutGroups x y)) := by
  refine cc_start (by decide +kernel) (Nat.le_of_ble_eq_true rfl) ?_
  intro p e s m below meth c A ls hx hb hr hml hown hts hlocks hA hE hK hP hD hS hl
  have hown : s.vm.findClass RX7 = some m.cls := hown
  have hl : lv_has ls 6 [(0, .long x), (2, .int y)] := hl
  have eS : sX7_withoutGroups x y = sX7_withoutGroups x y := rfl
  refine lv_lload_n hx hb dX7_withoutGroups_0 rfl (lv_at hl 0 rfl) ?_
  refine lv_lstore_n (lv' := [(3, .long x), (0, .long x), (2, .int y)]) hx hb dX7_withoutGroups_1 rfl hl (by decide) rfl (fun ls hl => ?_)
  refine lv_iconst (v := 0) hx hb dX7_withoutGroups_2 (by decide) ?_
  refine lv_istore (lv' := [(5, .int 0), (3, .long x), (0, .long x), (2, .int y)]) hx hb dX7_withoutGroups_3 hl (by decide) rfl (fun ls hl => ?_)
  have L_1 : ∀ (d : Nat) (i : Nat) (al : Int64) (hd : i + d = y.toNatClampNeg) (eS : sX7_withoutGroups x y = lp_X7_withoutGroups_5 x y d i al) (H : Heap) (locs : List Loc) (ls : Array Slot) (hP : va_P G vwCl ([]) H) (hD : va_D A ([])) (hS : va_S A s.heap H locs) (hl : lv_has ls 6 [(0, .long x), (2, .int y), (5, .int (nI i)), (3, .long al)]), GO p l e (rmO 0 0) s m ([.long x, .int y] : List Value).toArray below meth c A (QL G kk ([]) (sX7_withoutGroups x y)) H locs (F0 m 5 ls []) := by
    intro d
    induction d with
    | zero =>
      intro i al hd eS H locs ls hP hD hS hl
      refine lv_iload hx hb dX7_withoutGroups_5 (lv_at hl 2 rfl) ?_
      refine lv_iload_n hx hb dX7_withoutGroups_7 rfl (lv_at hl 1 rfl) ?_
      refine lv_icmp_ge (tgt := 23) hx hb dX7_withoutGroups_8 (by decide) (fun c_8 => ?_) (fun c_8 => absurd (cl_le hy (by omega) (by have := @cl_b y; omega)) c_8)
      refine lv_lload_n hx hb dX7_withoutGroups_23 rfl (lv_at hl 3 rfl) ?_
      exact fin_l hx hb hr hlocks hK hP hD hS eS dX7_withoutGroups_24
    | succ d ih =>
      intro i al hd eS H locs ls hP hD hS hl
      refine lv_iload hx hb dX7_withoutGroups_5 (lv_at hl 2 rfl) ?_
      refine lv_iload_n hx hb dX7_withoutGroups_7 rfl (lv_at hl 1 rfl) ?_
      refine lv_icmp_ge (tgt := 23) hx hb dX7_withoutGroups_8 (by decide) (fun c_8 => absurd c_8 (cl_gt hy (by omega) cl_b)) (fun c_8 => ?_)
      refine lv_lload_n hx hb dX7_withoutGroups_11 rfl (lv_at hl 3 rfl) ?_
      refine lv_ldc2 (v := 100000) hx hb hown (hts _ kl_X7_264) dX7_withoutGroups_12 ?_
      refine lv_ldiv hx hb dX7_withoutGroups_15 (by decide) ?_
      refine lv_lstore_n (lv' := [(3, .long (al / 100000)), (0, .long x), (2, .int y), (5, .int (nI i))]) hx hb dX7_withoutGroups_16 rfl hl (by decide) rfl (fun ls hl => ?_)
      refine lv_iinc (v := (nI (i + 1))) (lv' := [(5, .int (nI (i + 1))), (3, .long (al / 100000)), (0, .long x), (2, .int y)]) hx hb dX7_withoutGroups_17 hl (k := 3) rfl (nI_add i 1) (by decide) rfl (fun ls hl => ?_)
      refine lv_goto (tgt := 5) hx hb dX7_withoutGroups_20 (by decide) ?_
      exact ih (i + 1) (al / 100000) (by omega) eS _ _ ls hP hD hS (lv_sub hl [2, 3, 0, 1] rfl)
  exact L_1 y.toNatClampNeg 0 x (Nat.zero_add _) eS _ _ ls hP hD hS (lv_sub hl [2, 3, 0, 1] rfl)
